set_option maxHeartbeats 4000000 in
set_option maxRecDepth 100000 in
theorem z_addStructure (l : Launch) (dC : Nat → ClassId) (dI : Nat → Nat → Nat) (sz : Nat) (ed : Nat) (h0 : Nat) (a : Nat) (v1 : Value) (v2 : Value) (v3 : Value) (v4 : Value) (th : Int32) (m0 : Int32) : Met l yX10_addStructure (pw_ws yX10_addStructure cX10_addStructure 1 (some .int)) ({ frames := 5, cells := 4, slots := 27, locals := 107 } : Room) (va_Pc [.ref h0] (fun U => U.heap.size = sz ∧ va_P (dC, dI) vwCl [(h0, .inr (15, [.ref a, v1, v2, v3, v4, .int th])), (a, .inr (4, [.int m0, .ref ed, .int 0]))] U.heap ∧ va_K (dC, dI) vwCl [] U ∧ va_D (fun _ => True) [(h0, .inr (15, [.ref a, v1, v2, v3, v4, .int th])), (a, .inr (4, [.int m0, .ref ed, .int 0]))] ∧ pz ed (va_A [(h0, .inr (15, [.ref a, v1, v2, v3, v4, .int th])), (a, .inr (4, [.int m0, .ref ed, .int 0]))] sz) U U.heap)) (va_Qi (fun (r : Int32) (_ : Unit) => r = 0) (fun (_ : Unit) (t : State) => ∃ (qb : Nat), va_P (dC, dI) vwCl [(h0, .inr (15, [.ref a, v1, v2, v3, v4, .int 0])), (a, .inr (4, [.int (m0 + 1), .ref qb, .int 1]))] t.heap ∧ va_K (dC, dI) vwCl [] t ∧ va_D (va_A [(h0, .inr (15, [.ref a, v1, v2, v3, v4, .int th])), (a, .inr (4, [.int m0, .ref ed, .int 0]))] sz) [(h0, .inr (15, [.ref a, v1, v2, v3, v4, .int 0])), (a, .inr (4, [.int (m0 + 1), .ref qb, .int 1]))]) (va_A [(h0, .inr (15, [.ref a, v1, v2, v3, v4, .int th])), (a, .inr (4, [.int m0, .ref ed, .int 0]))] sz)) 4 27 (va_A [(h0, .inr (15, [.ref a, v1, v2, v3, v4, .int th])), (a, .inr (4, [.int m0, .ref ed, .int 0]))] sz) := by
  refine Met.ofW (cc := cX10_addStructure) (maxL := 1) (ret := (some .int)) (by decide) rfl ?_
  intro p e s m args below meth c s₁ B hml hv
  obtain ⟨rfl, hsz, hP, hK, hD0, hZ⟩ := hv
  have hx := B.exec
  have hb := B.bytes
  have hr := B.returns
  have hts0 := atoms_spec (ws := (pw_ws yX10_addStructure cX10_addStructure 1 (some .int))) B.pre
  have hts : ∀ w ∈ pw_all, w.before _ s = true := fun w h => hts0 w (List.mem_cons_of_mem _ h)
  have hown : s.vm.findClass RX10 = some m.cls := findClass_of_methodNamed B.named
  have hlocks := B.notSynchronized
  subst hsz
  have hD := hD0.self (sz := s.heap.size)
  generalize hAe : va_A [(h0, .inr (15, [.ref a, v1, v2, v3, v4, .int th])), (a, .inr (4, [.int m0, .ref ed, .int 0]))] s.heap.size = A at hD hZ ⊢
  have hA : ∀ q : Nat, s.heap.size ≤ q → A q := fun q h => by rw [← hAe]; exact Or.inr h
  have hS : va_S A s.heap s.heap [] := va_S.rf
  have hP : va_P (dC, dI) vwCl [(h0, .inr (15, [.ref a, v1, v2, v3, v4, .int th])), (a, .inr (4, [.int m0, .ref ed, .int 0]))] s.heap := hP
  have hl := lv_entry ([.ref h0]) (n := 1) (Nat.le_of_ble_eq_true rfl)
  rw [lg_entry_eq]
  generalize (lg_sl ([.ref h0]) ++ List.replicate (1 - (lg_sl ([.ref h0])).length) Slot.unset).toArray = ls at hl ⊢
  have hl : lv_has ls 1 [(0, .ref h0)] := hl
  skip
  refine lv_aload_n hx hb dX10_addStructure_0 rfl (lv_at hl 0 rfl) ?_
  refine lv_aload_n hx hb dX10_addStructure_1 rfl (lv_at hl 0 rfl) ?_
  refine va_get (D := (dC, dI)) (ci := 15) (v := .ref a) (C := RX10) (T := TX10) (N := 6) hx hb hts inX10 hown hK hP 0 rfl rfl 0 (by decide) (hts _ q1225) (fun _ h9 => h9) rfl dX10_addStructure_2 ?_
  have hPc := hP.sub (ws' := [(a, .inr (4, [.int m0, .ref ed, .int 0]))]) [1] rfl
  have hDc := hD.sub (ws' := [(a, .inr (4, [.int m0, .ref ed, .int 0]))]) [1] (by decide) rfl
  have hKc := hK.sub (tys' := []) [] rfl
  have hFc := va_free (wc := [(a, .inr (4, [.int m0, .ref ed, .int 0]))]) hD hS hA [1] rfl
  refine va_calli (va_runV (As := []) (rest := [.ref h0]) ⟨hx, hb, hml, hown, hts⟩ (m_size l dC dI s.heap.size a (.int m0) (.ref ed) 0) (cwV 0 hts (pw_V q1252 q274 q275 q46 q276) rfl rfl rfl (by decide +kernel) ⟨(Nat.le_of_ble_eq_true rfl), (Nat.le_of_ble_eq_true rfl)⟩) ⟨fun a U g mk q => by obtain ⟨q0, q1, qP, qK, qD⟩ := q; exact ⟨q0, q1, qP, va_K.moved (u := U) (U := U.calling g mk a) (Vm.Alike.refl U.vm) qK, qD⟩, va_recv hKc hPc (ci := 4) (q0 := 0) rfl rfl, fun U hU hW => ⟨rfl, by rw [hU], by rw [hU]; exact hPc, va_K.moved hW.alike hKc, hDc.weaken (fun _ _ _ _ => trivial)⟩⟩ rfl rfl hl.1 rfl (lv_room (Nat.le_of_ble_eq_true rfl)) dX10_addStructure_5 ⟨(Nat.le_of_ble_eq_true rfl), (Nat.le_of_ble_eq_true rfl)⟩) hS (fun q _ h => hFc q h) hFc (fun r_367 u t H1 locs ht hvm hw hB hz1 hk1 hS => ?_)
  obtain ⟨hP1, hK1, hD1⟩ := hB
  rw [ht] at hP1
  have hK1 := va_K.moved hvm.symm hK1
  obtain ⟨hP, hD⟩ := va_join (wr := [(h0, .inr (15, [.ref a, v1, v2, v3, v4, .int th]))]) (w1 := [(a, .inr (4, [.int m0, .ref ed, .int 0]))]) hP hD [1] [0] rfl rfl (by decide) (by decide) hk1 hFc hP1 hD1
  have hK := (hK.sub (tys' := []) [] rfl).app hK1
  generalize H1 = H at hP hS ⊢
  have hP : va_P (dC, dI) vwCl [(h0, .inr (15, [.ref a, v1, v2, v3, v4, .int th])), (a, .inr (4, [.int m0, .ref ed, .int 0]))] H := hP
  have hD : va_D A [(h0, .inr (15, [.ref a, v1, v2, v3, v4, .int th])), (a, .inr (4, [.int m0, .ref ed, .int 0]))] := hD
  have hK : va_K (dC, dI) vwCl [] s := hK
  refine W.widen (k := 0) (n := 0) (Nat.le_of_ble_eq_true rfl) (Nat.le_of_ble_eq_true rfl) ?_
  have hw : r_367 = 0 := hw
  subst hw
  refine lv_bipush (v := 6) hx hb dX10_addStructure_8 (by decide) ?_
  refine lv_icmp_ne (tgt := 17) hx hb dX10_addStructure_10 (by decide) (fun c_368 => ?_) (fun c_368 => absurd c_368 (by decide))
  refine lv_iconst (v := 0) hx hb dX10_addStructure_17 (by decide) ?_
  refine lv_iconst (v := 1) hx hb dX10_addStructure_18 (by decide) ?_
  have hPc := hP.sub (ws' := [(h0, .inr (15, [.ref a, v1, v2, v3, v4, .int th]))]) [0] rfl
  have hDc := hD.sub (ws' := [(h0, .inr (15, [.ref a, v1, v2, v3, v4, .int th]))]) [0] (by decide) rfl
  have hKc := hK.sub (tys' := []) [] rfl
  have hFc := va_free (wc := [(h0, .inr (15, [.ref a, v1, v2, v3, v4, .int th]))]) hD hS hA [0] rfl
  refine va_calli (va_runV (As := [.int 0, .int 1]) (rest := []) ⟨hx, hb, hml, hown, hts⟩ (n_isThrown0 l dC dI H.size h0 (.ref a) v1 v2 v3 v4 th 1) (cwV 2 hts (pw_V q1253 q1255 q19 q49 q1256) rfl rfl rfl (by decide +kernel) ⟨(Nat.le_of_ble_eq_true rfl), (Nat.le_of_ble_eq_true rfl)⟩) ⟨fun a U g mk q => by obtain ⟨q0, q1, qP, qK, qD⟩ := q; exact ⟨q0, q1, qP, va_K.moved (u := U) (U := U.calling g mk a) (Vm.Alike.refl U.vm) qK, qD⟩, va_recv hKc hPc (ci := 15) (q0 := 0) rfl rfl, fun U hU hW => ⟨rfl, by rw [hU], by rw [hU]; exact hPc, va_K.moved hW.alike hKc, hDc.weaken (fun _ _ _ _ => trivial)⟩⟩ rfl rfl hl.1 rfl (lv_room (Nat.le_of_ble_eq_true rfl)) dX10_addStructure_19 ⟨(Nat.le_of_ble_eq_true rfl), (Nat.le_of_ble_eq_true rfl)⟩) hS (fun q _ h => hFc q h) hFc (fun r_369 u t H1 locs ht hvm hw hB hz1 hk1 hS => ?_)
  obtain ⟨hP1, hK1, hD1⟩ := hB
  rw [ht] at hP1
  have hK1 := va_K.moved hvm.symm hK1
  obtain ⟨hP, hD⟩ := va_join (wr := [(a, .inr (4, [.int m0, .ref ed, .int 0]))]) (w1 := [(h0, .inr (15, [.ref a, v1, v2, v3, v4, .int 0]))]) hP hD [0] [1] rfl rfl (by decide) (by decide) hk1 hFc hP1 hD1
  have hK := (hK.sub (tys' := []) [] rfl).app hK1
  generalize H1 = H at hP hS ⊢
  have hP : va_P (dC, dI) vwCl [(a, .inr (4, [.int m0, .ref ed, .int 0])), (h0, .inr (15, [.ref a, v1, v2, v3, v4, .int 0]))] H := hP
  have hD : va_D A [(a, .inr (4, [.int m0, .ref ed, .int 0])), (h0, .inr (15, [.ref a, v1, v2, v3, v4, .int 0]))] := hD
  have hK : va_K (dC, dI) vwCl [] s := hK
  refine W.widen (k := 0) (n := 0) (Nat.le_of_ble_eq_true rfl) (Nat.le_of_ble_eq_true rfl) ?_
  have hw : r_369 = 0 := hw
  subst hw
  refine lv_if_eq (tgt := 27) hx hb dX10_addStructure_22 (by decide) (fun c_370 => ?_) (fun c_370 => absurd (by decide) c_370)
  refine lv_aload_n hx hb dX10_addStructure_27 rfl (lv_at hl 0 rfl) ?_
  refine va_get (D := (dC, dI)) (ci := 15) (v := .ref a) (C := RX10) (T := TX10) (N := 6) hx hb hts inX10 hown hK hP 1 rfl rfl 0 (by decide) (hts _ q1225) (fun _ h9 => h9) rfl dX10_addStructure_28 ?_
  refine va_new (ci := 14) (fs := [.null, .null, .long 0, .int 0, .int 0, .int 0]) (C := RX9) (T := TX9) (N := 6) hx hb hts inX9 tyX9 tyX9_ok hown (hts _ q1257) (hts _ q1258) (hts _ q59) hK hP hD hS hA rfl (fun j hj => by rcases (show j = 0 ∨ j = 1 ∨ j = 2 ∨ j = 3 ∨ j = 4 ∨ j = 5 by omega) with rfl | rfl | rfl | rfl | rfl | rfl <;> rfl) (Nat.le_of_ble_eq_true rfl) (Nat.le_of_ble_eq_true rfl) dX10_addStructure_31 (fun q_371 H hP hD hS => ?_)
  have hP : va_P (dC, dI) vwCl [(a, .inr (4, [.int m0, .ref ed, .int 0])), (h0, .inr (15, [.ref a, v1, v2, v3, v4, .int 0])), (q_371, .inr (14, [.null, .null, .long 0, .int 0, .int 0, .int 0]))] H := hP
  have hD : va_D A [(a, .inr (4, [.int m0, .ref ed, .int 0])), (h0, .inr (15, [.ref a, v1, v2, v3, v4, .int 0])), (q_371, .inr (14, [.null, .null, .long 0, .int 0, .int 0, .int 0]))] := hD
  refine W.widen (k := 1) (n := 6) (Nat.le_of_ble_eq_true rfl) (Nat.le_of_ble_eq_true rfl) ?_
  refine lv_dup hx hb dX10_addStructure_34 rfl ?_
  have hPc := hP.sub (ws' := [(q_371, .inr (14, [.null, .null, .long 0, .int 0, .int 0, .int 0]))]) [2] rfl
  have hDc := hD.sub (ws' := [(q_371, .inr (14, [.null, .null, .long 0, .int 0, .int 0, .int 0]))]) [2] (by decide) rfl
  have hKc := hK.sub (tys' := []) [] rfl
  have hFc := va_free (wc := [(q_371, .inr (14, [.null, .null, .long 0, .int 0, .int 0, .int 0]))]) hD hS hA [2] rfl
  refine va_callv (va_runIN (As := []) (rest := [.ref q_371, .ref a]) ⟨hx, hb, hml, hown, hts⟩ (m_mstructInit l dC dI H.size ed q_371) ⟨va_cnB 0 hts (pw_c q1261) rfl rfl rfl hZ.nestM (hts _ q59) (by decide +kernel) ⟨(Nat.le_of_ble_eq_true rfl), (Nat.le_of_ble_eq_true rfl)⟩, rfl, (hts _ q1260)⟩ ⟨fun a U g mk q => by obtain ⟨q0, q1, qP, qK, qD, qZ⟩ := q; exact ⟨q0, q1, qP, va_K.moved (u := U) (U := U.calling g mk a) (Vm.Alike.refl U.vm) qK, qD, qZ.same rfl⟩, fun U hU hW => ⟨rfl, by rw [hU], by rw [hU]; exact hPc, va_K.moved hW.alike hKc, hDc.weaken (fun _ _ _ _ => trivial), hZ.call hS hFc hU hW⟩⟩ rfl rfl hl.1 rfl (lv_room (Nat.le_of_ble_eq_true rfl)) dX10_addStructure_35 ⟨(Nat.le_of_ble_eq_true rfl), (Nat.le_of_ble_eq_true rfl)⟩) hS (fun q _ h => hFc q h) hFc (fun u t H1 locs ht hvm hw hB hz1 hk1 hS => ?_)
  obtain ⟨f0_373, f1_374, f2_375, f3_376, f4_377, f5_378, hP1, hK1, hD1⟩ := hB
  rw [ht] at hP1
  have hK1 := va_K.moved hvm.symm hK1
  obtain ⟨hP, hD⟩ := va_join (wr := [(a, .inr (4, [.int m0, .ref ed, .int 0])), (h0, .inr (15, [.ref a, v1, v2, v3, v4, .int 0]))]) (w1 := [(q_371, .inr (14, [f0_373, f1_374, f2_375, f3_376, f4_377, f5_378]))]) hP hD [2] [0, 1] rfl rfl (by decide) (by decide) hk1 hFc hP1 hD1
  have hK := (hK.sub (tys' := []) [] rfl).app hK1
  generalize H1 = H at hP hS ⊢
  have hP : va_P (dC, dI) vwCl [(a, .inr (4, [.int m0, .ref ed, .int 0])), (h0, .inr (15, [.ref a, v1, v2, v3, v4, .int 0])), (q_371, .inr (14, [f0_373, f1_374, f2_375, f3_376, f4_377, f5_378]))] H := hP
  have hD : va_D A [(a, .inr (4, [.int m0, .ref ed, .int 0])), (h0, .inr (15, [.ref a, v1, v2, v3, v4, .int 0])), (q_371, .inr (14, [f0_373, f1_374, f2_375, f3_376, f4_377, f5_378]))] := hD
  have hK : va_K (dC, dI) vwCl [] s := hK
  refine W.widen (k := 3) (n := 17) (Nat.le_of_ble_eq_true rfl) (Nat.le_of_ble_eq_true rfl) ?_
  have hPc := hP.sub (ws' := [(a, .inr (4, [.int m0, .ref ed, .int 0]))]) [0] rfl
  have hDc := hD.sub (ws' := [(a, .inr (4, [.int m0, .ref ed, .int 0]))]) [0] (by decide) rfl
  have hKc := hK.sub (tys' := []) [] rfl
  have hFc := va_free (wc := [(a, .inr (4, [.int m0, .ref ed, .int 0]))]) hD hS hA [0] rfl
  have hEk := pe.of hK hP (i := 2) (ci := 14) rfl rfl (va_Nw.of rfl (hZ.cast (args := #[]) (C := "ShakerhallModel$Structure") (T := "java/lang/Object") (by decide))) (pe_ne hP hD (i := 2) rfl [0] (wc := [(a, .inr (4, [.int m0, .ref ed, .int 0]))]) rfl (by decide))
  refine va_calli (va_runV (As := [.ref q_371]) (rest := []) ⟨hx, hb, hml, hown, hts⟩ (m_add l dC dI H.size ed a q_371 m0) (cwV 1 hts (pw_V q1290 q432 q433 q46 q434) rfl rfl rfl (by decide +kernel) ⟨(Nat.le_of_ble_eq_true rfl), (Nat.le_of_ble_eq_true rfl)⟩) ⟨fun a U g mk q => by obtain ⟨q0, q1, qP, qK, qD, qZ, qE⟩ := q; exact ⟨q0, q1, qP, va_K.moved (u := U) (U := U.calling g mk a) (Vm.Alike.refl U.vm) qK, qD, qZ.same rfl, qE.same rfl⟩, va_recv hKc hPc (ci := 4) (q0 := 0) rfl rfl, fun U hU hW => ⟨rfl, by rw [hU], by rw [hU]; exact hPc, va_K.moved hW.alike hKc, hDc.weaken (fun _ _ _ _ => trivial), hZ.call hS hFc hU hW, (hEk.warm hW).heap hU⟩⟩ rfl rfl hl.1 rfl (lv_room (Nat.le_of_ble_eq_true rfl)) dX10_addStructure_38 ⟨(Nat.le_of_ble_eq_true rfl), (Nat.le_of_ble_eq_true rfl)⟩) hS (fun q _ h => hFc q h) hFc (fun r_379 u t H1 locs ht hvm hw hB hz1 hk1 hS => ?_)
  obtain ⟨qa_380, hP1, hK1, hD1⟩ := hB
  rw [ht] at hP1
  have hK1 := va_K.moved hvm.symm hK1
  obtain ⟨hP, hD⟩ := va_join (wr := [(h0, .inr (15, [.ref a, v1, v2, v3, v4, .int 0])), (q_371, .inr (14, [f0_373, f1_374, f2_375, f3_376, f4_377, f5_378]))]) (w1 := [(a, .inr (4, [.int (m0 + 1), .ref qa_380, .int 1]))]) hP hD [0] [1, 2] rfl rfl (by decide) (by decide) hk1 hFc hP1 hD1
  have hK := (hK.sub (tys' := []) [] rfl).app hK1
  generalize H1 = H at hP hS ⊢
  have hP : va_P (dC, dI) vwCl [(h0, .inr (15, [.ref a, v1, v2, v3, v4, .int 0])), (q_371, .inr (14, [f0_373, f1_374, f2_375, f3_376, f4_377, f5_378])), (a, .inr (4, [.int (m0 + 1), .ref qa_380, .int 1]))] H := hP
  have hD : va_D A [(h0, .inr (15, [.ref a, v1, v2, v3, v4, .int 0])), (q_371, .inr (14, [f0_373, f1_374, f2_375, f3_376, f4_377, f5_378])), (a, .inr (4, [.int (m0 + 1), .ref qa_380, .int 1]))] := hD
  have hK : va_K (dC, dI) vwCl [] s := hK
  refine W.widen (k := 4) (n := 27) (Nat.le_of_ble_eq_true rfl) (Nat.le_of_ble_eq_true rfl) ?_
  have hw : r_379 = 1 := hw
  subst hw
  refine lv_pop hx hb dX10_addStructure_41 rfl ?_
  refine lv_aload_n hx hb dX10_addStructure_42 rfl (lv_at hl 0 rfl) ?_
  refine va_get (D := (dC, dI)) (ci := 15) (v := .ref a) (C := RX10) (T := TX10) (N := 6) hx hb hts inX10 hown hK hP 0 rfl rfl 0 (by decide) (hts _ q1225) (fun _ h9 => h9) rfl dX10_addStructure_43 ?_
  have hPc := hP.sub (ws' := [(a, .inr (4, [.int (m0 + 1), .ref qa_380, .int 1]))]) [2] rfl
  have hDc := hD.sub (ws' := [(a, .inr (4, [.int (m0 + 1), .ref qa_380, .int 1]))]) [2] (by decide) rfl
  have hKc := hK.sub (tys' := []) [] rfl
  have hFc := va_free (wc := [(a, .inr (4, [.int (m0 + 1), .ref qa_380, .int 1]))]) hD hS hA [2] rfl
  refine va_calli (va_runV (As := []) (rest := []) ⟨hx, hb, hml, hown, hts⟩ (m_size l dC dI H.size a (.int (m0 + 1)) (.ref qa_380) 1) (cwV 0 hts (pw_V q1252 q274 q275 q46 q276) rfl rfl rfl (by decide +kernel) ⟨(Nat.le_of_ble_eq_true rfl), (Nat.le_of_ble_eq_true rfl)⟩) ⟨fun a U g mk q => by obtain ⟨q0, q1, qP, qK, qD⟩ := q; exact ⟨q0, q1, qP, va_K.moved (u := U) (U := U.calling g mk a) (Vm.Alike.refl U.vm) qK, qD⟩, va_recv hKc hPc (ci := 4) (q0 := 0) rfl rfl, fun U hU hW => ⟨rfl, by rw [hU], by rw [hU]; exact hPc, va_K.moved hW.alike hKc, hDc.weaken (fun _ _ _ _ => trivial)⟩⟩ rfl rfl hl.1 rfl (lv_room (Nat.le_of_ble_eq_true rfl)) dX10_addStructure_46 ⟨(Nat.le_of_ble_eq_true rfl), (Nat.le_of_ble_eq_true rfl)⟩) hS (fun q _ h => hFc q h) hFc (fun r_381 u t H1 locs ht hvm hw hB hz1 hk1 hS => ?_)
  obtain ⟨hP1, hK1, hD1⟩ := hB
  rw [ht] at hP1
  have hK1 := va_K.moved hvm.symm hK1
  obtain ⟨hP, hD⟩ := va_join (wr := [(h0, .inr (15, [.ref a, v1, v2, v3, v4, .int 0])), (q_371, .inr (14, [f0_373, f1_374, f2_375, f3_376, f4_377, f5_378]))]) (w1 := [(a, .inr (4, [.int (m0 + 1), .ref qa_380, .int 1]))]) hP hD [2] [0, 1] rfl rfl (by decide) (by decide) hk1 hFc hP1 hD1
  have hK := (hK.sub (tys' := []) [] rfl).app hK1
  generalize H1 = H at hP hS ⊢
  have hP : va_P (dC, dI) vwCl [(h0, .inr (15, [.ref a, v1, v2, v3, v4, .int 0])), (q_371, .inr (14, [f0_373, f1_374, f2_375, f3_376, f4_377, f5_378])), (a, .inr (4, [.int (m0 + 1), .ref qa_380, .int 1]))] H := hP
  have hD : va_D A [(h0, .inr (15, [.ref a, v1, v2, v3, v4, .int 0])), (q_371, .inr (14, [f0_373, f1_374, f2_375, f3_376, f4_377, f5_378])), (a, .inr (4, [.int (m0 + 1), .ref qa_380, .int 1]))] := hD
  have hK : va_K (dC, dI) vwCl [] s := hK
  refine W.widen (k := 4) (n := 27) (Nat.le_of_ble_eq_true rfl) (Nat.le_of_ble_eq_true rfl) ?_
  have hw : r_381 = 1 := hw
  subst hw
  refine lv_iconst (v := 1) hx hb dX10_addStructure_49 (by decide) ?_
  refine lv_isub hx hb dX10_addStructure_50 ?_
  refine lv_numI (v := 0) (by decide) ?_
  have hP9 := hP.sub (ws' := [(h0, .inr (15, [.ref a, v1, v2, v3, v4, .int 0])), (a, .inr (4, [.int (m0 + 1), .ref qa_380, .int 1]))]) [0, 2] rfl
  have hD9 := hD.sub (ws' := [(h0, .inr (15, [.ref a, v1, v2, v3, v4, .int 0])), (a, .inr (4, [.int (m0 + 1), .ref qa_380, .int 1]))]) [0, 2] (by decide) rfl
  have hK9 := hK.sub (tys' := []) [] rfl
  refine W.widen (k := 4) (n := 27) (Nat.le_of_ble_eq_true rfl) (Nat.le_of_ble_eq_true rfl) ?_
  exact W.iret (v := 0) hx hb hr (fun t ht hW => ⟨⟨0, (), rfl, rfl, ⟨qa_380, by rw [ht]; exact hP9, va_K.moved hW.alike hK9, hD9⟩⟩, hS.F ht⟩) hS.2.2 dX10_addStructure_51
set_option maxHeartbeats 4000000 in
set_option maxRecDepth 100000 in
theorem z_wipe (l : Launch) (dC : Nat → ClassId) (dI : Nat → Nat → Nat) (sz : Nat) (h0 : Nat) (a : Nat) (b : Nat) (v0 : Value) (v1 : Value) (v2 : Value) (v3 : Value) (th : Int32) (m0 : Int32) : Met l yX10_wipe (pw_ws yX10_wipe cX10_wipe 2 (some .int)) ({ frames := 2, cells := 0, slots := 0, locals := 43 } : Room) (va_Pc [.ref h0] (fun U => U.heap.size = sz ∧ va_P (dC, dI) vwCl [(h0, .inr (15, [v0, v1, v2, v3, .ref a, .int th])), (a, .inr (4, [.int m0, .ref b, .int 0]))] U.heap ∧ va_K (dC, dI) vwCl [] U ∧ va_D (fun _ => True) [(h0, .inr (15, [v0, v1, v2, v3, .ref a, .int th])), (a, .inr (4, [.int m0, .ref b, .int 0]))])) (va_Qi (fun (r : Int32) (_ : Unit) => r = 0) (fun (_ : Unit) (t : State) => va_P (dC, dI) vwCl [(h0, .inr (15, [v0, v1, v2, v3, .ref a, .int 0])), (a, .inr (4, [.int (m0 + 1), .ref b, .int 0]))] t.heap ∧ va_K (dC, dI) vwCl [] t ∧ va_D (va_A [(h0, .inr (15, [v0, v1, v2, v3, .ref a, .int th])), (a, .inr (4, [.int m0, .ref b, .int 0]))] sz) [(h0, .inr (15, [v0, v1, v2, v3, .ref a, .int 0])), (a, .inr (4, [.int (m0 + 1), .ref b, .int 0]))]) (va_A [(h0, .inr (15, [v0, v1, v2, v3, .ref a, .int th])), (a, .inr (4, [.int m0, .ref b, .int 0]))] sz)) 0 0 (va_A [(h0, .inr (15, [v0, v1, v2, v3, .ref a, .int th])), (a, .inr (4, [.int m0, .ref b, .int 0]))] sz) := by
  refine Met.ofW (cc := cX10_wipe) (maxL := 2) (ret := (some .int)) (by decide) rfl ?_
  intro p e s m args below meth c s₁ B hml hv
  obtain ⟨rfl, hsz, hP, hK, hD0⟩ := hv
  have hx := B.exec
  have hb := B.bytes
  have hr := B.returns
  have hts0 := atoms_spec (ws := (pw_ws yX10_wipe cX10_wipe 2 (some .int))) B.pre
  have hts : ∀ w ∈ pw_all, w.before _ s = true := fun w h => hts0 w (List.mem_cons_of_mem _ h)
  have hown : s.vm.findClass RX10 = some m.cls := findClass_of_methodNamed B.named
  have hlocks := B.notSynchronized
  subst hsz
  have hD := hD0.self (sz := s.heap.size)
  generalize hAe : va_A [(h0, .inr (15, [v0, v1, v2, v3, .ref a, .int th])), (a, .inr (4, [.int m0, .ref b, .int 0]))] s.heap.size = A at hD ⊢
  have hA : ∀ q : Nat, s.heap.size ≤ q → A q := fun q h => by rw [← hAe]; exact Or.inr h
  have hS : va_S A s.heap s.heap [] := va_S.rf
  have hP : va_P (dC, dI) vwCl [(h0, .inr (15, [v0, v1, v2, v3, .ref a, .int th])), (a, .inr (4, [.int m0, .ref b, .int 0]))] s.heap := hP
  have hl := lv_entry ([.ref h0]) (n := 2) (Nat.le_of_ble_eq_true rfl)
  rw [lg_entry_eq]
  generalize (lg_sl ([.ref h0]) ++ List.replicate (2 - (lg_sl ([.ref h0])).length) Slot.unset).toArray = ls at hl ⊢
  have hl : lv_has ls 2 [(0, .ref h0)] := hl
  skip
  refine lv_aload_n hx hb dX10_wipe_0 rfl (lv_at hl 0 rfl) ?_
  refine lv_iconst (v := 0) hx hb dX10_wipe_1 (by decide) ?_
  refine va_put (D := (dC, dI)) (ci := 15) (v := .int 0) (ty := .int) (C := RX10) (T := TX10) (N := 6) hx hb hts inX10 tyX10 tyX10_ok nmX10 hown hK hP hD hS 0 rfl rfl 5 (by decide) (hts _ q1230) (fun _ h9 => h9) rfl (by decide +kernel) rfl rfl (Nat.le_of_ble_eq_true rfl) dX10_wipe_2 (fun H locs hP hD hS => ?_)
  have hP : va_P (dC, dI) vwCl [(h0, .inr (15, [v0, v1, v2, v3, .ref a, .int 0])), (a, .inr (4, [.int m0, .ref b, .int 0]))] H := hP
  have hD : va_D A [(h0, .inr (15, [v0, v1, v2, v3, .ref a, .int 0])), (a, .inr (4, [.int m0, .ref b, .int 0]))] := hD
  refine lv_aload_n hx hb dX10_wipe_5 rfl (lv_at hl 0 rfl) ?_
  refine va_get (D := (dC, dI)) (ci := 15) (v := .ref a) (C := RX10) (T := TX10) (N := 6) hx hb hts inX10 hown hK hP 0 rfl rfl 4 (by decide) (hts _ q1229) (fun _ h9 => h9) rfl dX10_wipe_6 ?_
  have hPc := hP.sub (ws' := [(a, .inr (4, [.int m0, .ref b, .int 0]))]) [1] rfl
  have hDc := hD.sub (ws' := [(a, .inr (4, [.int m0, .ref b, .int 0]))]) [1] (by decide) rfl
  have hKc := hK.sub (tys' := []) [] rfl
  have hFc := va_free (wc := [(a, .inr (4, [.int m0, .ref b, .int 0]))]) hD hS hA [1] rfl
  refine va_calli (va_runV (As := []) (rest := []) ⟨hx, hb, hml, hown, hts⟩ (m_size l dC dI H.size a (.int m0) (.ref b) 0) (cwV 0 hts (pw_V q1252 q274 q275 q46 q276) rfl rfl rfl (by decide +kernel) ⟨(Nat.le_of_ble_eq_true rfl), (Nat.le_of_ble_eq_true rfl)⟩) ⟨fun a U g mk q => by obtain ⟨q0, q1, qP, qK, qD⟩ := q; exact ⟨q0, q1, qP, va_K.moved (u := U) (U := U.calling g mk a) (Vm.Alike.refl U.vm) qK, qD⟩, va_recv hKc hPc (ci := 4) (q0 := 0) rfl rfl, fun U hU hW => ⟨rfl, by rw [hU], by rw [hU]; exact hPc, va_K.moved hW.alike hKc, hDc.weaken (fun _ _ _ _ => trivial)⟩⟩ rfl rfl hl.1 rfl (lv_room (Nat.le_of_ble_eq_true rfl)) dX10_wipe_9 ⟨(Nat.le_of_ble_eq_true rfl), (Nat.le_of_ble_eq_true rfl)⟩) hS (fun q _ h => hFc q h) hFc (fun r_382 u t H1 locs ht hvm hw hB hz1 hk1 hS => ?_)
  obtain ⟨hP1, hK1, hD1⟩ := hB
  rw [ht] at hP1
  have hK1 := va_K.moved hvm.symm hK1
  obtain ⟨hP, hD⟩ := va_join (wr := [(h0, .inr (15, [v0, v1, v2, v3, .ref a, .int 0]))]) (w1 := [(a, .inr (4, [.int m0, .ref b, .int 0]))]) hP hD [1] [0] rfl rfl (by decide) (by decide) hk1 hFc hP1 hD1
  have hK := (hK.sub (tys' := []) [] rfl).app hK1
  generalize H1 = H at hP hS ⊢
  have hP : va_P (dC, dI) vwCl [(h0, .inr (15, [v0, v1, v2, v3, .ref a, .int 0])), (a, .inr (4, [.int m0, .ref b, .int 0]))] H := hP
  have hD : va_D A [(h0, .inr (15, [v0, v1, v2, v3, .ref a, .int 0])), (a, .inr (4, [.int m0, .ref b, .int 0]))] := hD
  have hK : va_K (dC, dI) vwCl [] s := hK
  refine W.widen (k := 0) (n := 0) (Nat.le_of_ble_eq_true rfl) (Nat.le_of_ble_eq_true rfl) ?_
  have hw : r_382 = 0 := hw
  subst hw
  refine lv_istore_n (lv' := [(1, .int 0), (0, .ref h0)]) hx hb dX10_wipe_12 rfl hl (by decide) rfl (fun ls hl => ?_)
  refine lv_aload_n hx hb dX10_wipe_13 rfl (lv_at hl 1 rfl) ?_
  refine va_get (D := (dC, dI)) (ci := 15) (v := .ref a) (C := RX10) (T := TX10) (N := 6) hx hb hts inX10 hown hK hP 0 rfl rfl 4 (by decide) (hts _ q1229) (fun _ h9 => h9) rfl dX10_wipe_14 ?_
  have hPc := hP.sub (ws' := [(a, .inr (4, [.int m0, .ref b, .int 0]))]) [1] rfl
  have hDc := hD.sub (ws' := [(a, .inr (4, [.int m0, .ref b, .int 0]))]) [1] (by decide) rfl
  have hKc := hK.sub (tys' := []) [] rfl
  have hFc := va_free (wc := [(a, .inr (4, [.int m0, .ref b, .int 0]))]) hD hS hA [1] rfl
  refine va_callv (va_runV (As := []) (rest := []) ⟨hx, hb, hml, hown, hts⟩ (m_clear l dC dI H.size a b m0) (cwV 0 hts (pw_V q1994 q1995 q1996 q46 q1997) rfl rfl rfl (by decide +kernel) ⟨(Nat.le_of_ble_eq_true rfl), (Nat.le_of_ble_eq_true rfl)⟩) ⟨fun a U g mk q => by obtain ⟨q0, q1, qP, qK, qD⟩ := q; exact ⟨q0, q1, qP, va_K.moved (u := U) (U := U.calling g mk a) (Vm.Alike.refl U.vm) qK, qD⟩, va_recv hKc hPc (ci := 4) (q0 := 0) rfl rfl, fun U hU hW => ⟨rfl, by rw [hU], by rw [hU]; exact hPc, va_K.moved hW.alike hKc, hDc.weaken (fun _ _ _ _ => trivial)⟩⟩ rfl rfl hl.1 rfl (lv_room (Nat.le_of_ble_eq_true rfl)) dX10_wipe_17 ⟨(Nat.le_of_ble_eq_true rfl), (Nat.le_of_ble_eq_true rfl)⟩) hS (fun q _ h => hFc q h) hFc (fun u t H1 locs ht hvm hw hB hz1 hk1 hS => ?_)
  obtain ⟨hP1, hK1, hD1⟩ := hB
  rw [ht] at hP1
  have hK1 := va_K.moved hvm.symm hK1
  obtain ⟨hP, hD⟩ := va_join (wr := [(h0, .inr (15, [v0, v1, v2, v3, .ref a, .int 0]))]) (w1 := [(a, .inr (4, [.int (m0 + 1), .ref b, .int 0]))]) hP hD [1] [0] rfl rfl (by decide) (by decide) hk1 hFc hP1 hD1
  have hK := (hK.sub (tys' := []) [] rfl).app hK1
  generalize H1 = H at hP hS ⊢
  have hP : va_P (dC, dI) vwCl [(h0, .inr (15, [v0, v1, v2, v3, .ref a, .int 0])), (a, .inr (4, [.int (m0 + 1), .ref b, .int 0]))] H := hP
  have hD : va_D A [(h0, .inr (15, [v0, v1, v2, v3, .ref a, .int 0])), (a, .inr (4, [.int (m0 + 1), .ref b, .int 0]))] := hD
  have hK : va_K (dC, dI) vwCl [] s := hK
  refine W.widen (k := 0) (n := 0) (Nat.le_of_ble_eq_true rfl) (Nat.le_of_ble_eq_true rfl) ?_
  refine lv_iload_n hx hb dX10_wipe_20 rfl (lv_at hl 0 rfl) ?_
  have hP9 := hP.sub (ws' := [(h0, .inr (15, [v0, v1, v2, v3, .ref a, .int 0])), (a, .inr (4, [.int (m0 + 1), .ref b, .int 0]))]) [0, 1] rfl
  have hD9 := hD.sub (ws' := [(h0, .inr (15, [v0, v1, v2, v3, .ref a, .int 0])), (a, .inr (4, [.int (m0 + 1), .ref b, .int 0]))]) [0, 1] (by decide) rfl
  have hK9 := hK.sub (tys' := []) [] rfl
  refine W.widen (k := 0) (n := 0) (Nat.le_of_ble_eq_true rfl) (Nat.le_of_ble_eq_true rfl) ?_
  exact W.iret (v := 0) hx hb hr (fun t ht hW => ⟨⟨0, (), rfl, rfl, ⟨by rw [ht]; exact hP9, va_K.moved hW.alike hK9, hD9⟩⟩, hS.F ht⟩) hS.2.2 dX10_wipe_21
set_option maxHeartbeats 4000000 in
set_option maxRecDepth 100000 in
theorem z_spectrumBad (l : Launch) (dC : Nat → ClassId) (dI : Nat → Nat → Nat) (sz : Nat) (h0 : Nat) (a : Nat) (v0 : Value) (v1 : Value) (v2 : Value) (v3 : Value) (w0 : Value) (w1 : Value) (th : Int32) (p0 : Int32) (h1 : p0 < 4 ∨ 64 < p0) : Met l yX10_getSpectrum (pw_ws yX10_getSpectrum cX10_getSpectrum 6 (some .int)) ({ frames := 2, cells := 0, slots := 0, locals := 42 } : Room) (va_Pc [.ref h0, .int p0] (fun U => U.heap.size = sz ∧ va_P (dC, dI) vwCl [(h0, .inr (15, [v0, v1, v2, v3, .ref a, .int th])), (a, .inr (4, [w0, w1, .int 0]))] U.heap ∧ va_K (dC, dI) vwCl [] U ∧ va_D (fun _ => True) [(h0, .inr (15, [v0, v1, v2, v3, .ref a, .int th])), (a, .inr (4, [w0, w1, .int 0]))])) (va_Qi (fun (r : Int32) (_ : Unit) => r = 0) (fun (_ : Unit) (t : State) => va_P (dC, dI) vwCl [(h0, .inr (15, [v0, v1, v2, v3, .ref a, .int 1])), (a, .inr (4, [w0, w1, .int 0]))] t.heap ∧ va_K (dC, dI) vwCl [] t ∧ va_D (va_A [(h0, .inr (15, [v0, v1, v2, v3, .ref a, .int th])), (a, .inr (4, [w0, w1, .int 0]))] sz) [(h0, .inr (15, [v0, v1, v2, v3, .ref a, .int 1])), (a, .inr (4, [w0, w1, .int 0]))]) (va_A [(h0, .inr (15, [v0, v1, v2, v3, .ref a, .int th])), (a, .inr (4, [w0, w1, .int 0]))] sz)) 0 0 (va_A [(h0, .inr (15, [v0, v1, v2, v3, .ref a, .int th])), (a, .inr (4, [w0, w1, .int 0]))] sz) := by
  refine Met.ofW (cc := cX10_getSpectrum) (maxL := 6) (ret := (some .int)) (by decide) rfl ?_
  intro p e s m args below meth c s₁ B hml hv
  obtain ⟨rfl, hsz, hP, hK, hD0⟩ := hv
  have hx := B.exec
  have hb := B.bytes
  have hr := B.returns
  have hts0 := atoms_spec (ws := (pw_ws yX10_getSpectrum cX10_getSpectrum 6 (some .int))) B.pre
  have hts : ∀ w ∈ pw_all, w.before _ s = true := fun w h => hts0 w (List.mem_cons_of_mem _ h)
  have hown : s.vm.findClass RX10 = some m.cls := findClass_of_methodNamed B.named
  have hlocks := B.notSynchronized
  subst hsz
  have hD := hD0.self (sz := s.heap.size)
  generalize hAe : va_A [(h0, .inr (15, [v0, v1, v2, v3, .ref a, .int th])), (a, .inr (4, [w0, w1, .int 0]))] s.heap.size = A at hD ⊢
  have hA : ∀ q : Nat, s.heap.size ≤ q → A q := fun q h => by rw [← hAe]; exact Or.inr h
  have hS : va_S A s.heap s.heap [] := va_S.rf
  have hP : va_P (dC, dI) vwCl [(h0, .inr (15, [v0, v1, v2, v3, .ref a, .int th])), (a, .inr (4, [w0, w1, .int 0]))] s.heap := hP
  have hl := lv_entry ([.ref h0, .int p0]) (n := 6) (Nat.le_of_ble_eq_true rfl)
  rw [lg_entry_eq]
  generalize (lg_sl ([.ref h0, .int p0]) ++ List.replicate (6 - (lg_sl ([.ref h0, .int p0])).length) Slot.unset).toArray = ls at hl ⊢
  have hl : lv_has ls 6 [(0, .ref h0), (1, .int p0)] := hl
  skip
  refine lv_aload_n hx hb dX10_getSpectrum_0 rfl (lv_at hl 0 rfl) ?_
  refine lv_iload_n hx hb dX10_getSpectrum_1 rfl (lv_at hl 1 rfl) ?_
  refine lv_iconst (v := 4) hx hb dX10_getSpectrum_2 (by decide) ?_
  refine lv_bipush (v := 64) hx hb dX10_getSpectrum_3 (by decide) ?_
  have hPc := hP.sub (ws' := []) [] rfl
  have hDc := hD.sub (ws' := []) [] (by decide) rfl
  have hKc := hK.sub (tys' := []) [] rfl
  have hFc := va_free (wc := []) hD hS hA [] rfl
  refine va_calli (va_runS (As := [.int p0, .int 4, .int 64]) (rest := [.ref h0]) ⟨hx, hb, hml, hown, hts⟩ (n_isIn0 l dC dI s.heap.size p0 4 64 h1) (va_cwS 3 hts (pw_S q1299 q1300 q49 q1301) rfl rfl rfl (by decide +kernel) ⟨(Nat.le_of_ble_eq_true rfl), (Nat.le_of_ble_eq_true rfl)⟩) ⟨fun a U g mk q => by obtain ⟨q0, q1, qP, qK, qD⟩ := q; exact ⟨q0, q1, qP, va_K.moved (u := U) (U := U.calling g mk a) (Vm.Alike.refl U.vm) qK, qD⟩, fun U hU hW => ⟨rfl, by rw [hU], by rw [hU]; exact hPc, va_K.moved hW.alike hKc, hDc.weaken (fun _ _ _ _ => trivial)⟩⟩ rfl rfl hl.1 rfl (lv_room (Nat.le_of_ble_eq_true rfl)) dX10_getSpectrum_5 ⟨(Nat.le_of_ble_eq_true rfl), (Nat.le_of_ble_eq_true rfl)⟩) hS (fun q _ h => hFc q h) hFc (fun r_384 u t H1 locs ht hvm hw hB hz1 hk1 hS => ?_)
  obtain ⟨hP1, hK1, hD1⟩ := hB
  rw [ht] at hP1
  have hK1 := va_K.moved hvm.symm hK1
  obtain ⟨hP, hD⟩ := va_join (wr := [(h0, .inr (15, [v0, v1, v2, v3, .ref a, .int th])), (a, .inr (4, [w0, w1, .int 0]))]) (w1 := []) hP hD [] [0, 1] rfl rfl (by decide) (by decide) hk1 hFc hP1 hD1
  have hK := (hK.sub (tys' := []) [] rfl).app hK1
  generalize H1 = H at hP hS ⊢
  have hP : va_P (dC, dI) vwCl [(h0, .inr (15, [v0, v1, v2, v3, .ref a, .int th])), (a, .inr (4, [w0, w1, .int 0]))] H := hP
  have hD : va_D A [(h0, .inr (15, [v0, v1, v2, v3, .ref a, .int th])), (a, .inr (4, [w0, w1, .int 0]))] := hD
  have hK : va_K (dC, dI) vwCl [] s := hK
  refine W.widen (k := 0) (n := 0) (Nat.le_of_ble_eq_true rfl) (Nat.le_of_ble_eq_true rfl) ?_
  have hw : r_384 = 0 := hw
  subst hw
  refine lv_if_ne (tgt := 15) hx hb dX10_getSpectrum_8 (by decide) (fun c_385 => absurd (by decide) c_385) (fun c_385 => ?_)
  refine lv_iconst (v := 1) hx hb dX10_getSpectrum_11 (by decide) ?_
  refine lv_goto (tgt := 16) hx hb dX10_getSpectrum_12 (by decide) ?_
  refine lv_iconst (v := 1) hx hb dX10_getSpectrum_16 (by decide) ?_
  have hPc := hP.sub (ws' := [(h0, .inr (15, [v0, v1, v2, v3, .ref a, .int th]))]) [0] rfl
  have hDc := hD.sub (ws' := [(h0, .inr (15, [v0, v1, v2, v3, .ref a, .int th]))]) [0] (by decide) rfl
  have hKc := hK.sub (tys' := []) [] rfl
  have hFc := va_free (wc := [(h0, .inr (15, [v0, v1, v2, v3, .ref a, .int th]))]) hD hS hA [0] rfl
  refine va_calli (va_runV (As := [.int 1, .int 1]) (rest := []) ⟨hx, hb, hml, hown, hts⟩ (n_isThrown1 l dC dI H.size h0 v0 v1 v2 v3 (.ref a) th 1) (cwV 2 hts (pw_V q1253 q1255 q19 q49 q1256) rfl rfl rfl (by decide +kernel) ⟨(Nat.le_of_ble_eq_true rfl), (Nat.le_of_ble_eq_true rfl)⟩) ⟨fun a U g mk q => by obtain ⟨q0, q1, qP, qK, qD⟩ := q; exact ⟨q0, q1, qP, va_K.moved (u := U) (U := U.calling g mk a) (Vm.Alike.refl U.vm) qK, qD⟩, va_recv hKc hPc (ci := 15) (q0 := 0) rfl rfl, fun U hU hW => ⟨rfl, by rw [hU], by rw [hU]; exact hPc, va_K.moved hW.alike hKc, hDc.weaken (fun _ _ _ _ => trivial)⟩⟩ rfl rfl hl.1 rfl (lv_room (Nat.le_of_ble_eq_true rfl)) dX10_getSpectrum_17 ⟨(Nat.le_of_ble_eq_true rfl), (Nat.le_of_ble_eq_true rfl)⟩) hS (fun q _ h => hFc q h) hFc (fun r_386 u t H1 locs ht hvm hw hB hz1 hk1 hS => ?_)
  obtain ⟨hP1, hK1, hD1⟩ := hB
  rw [ht] at hP1
  have hK1 := va_K.moved hvm.symm hK1
  obtain ⟨hP, hD⟩ := va_join (wr := [(a, .inr (4, [w0, w1, .int 0]))]) (w1 := [(h0, .inr (15, [v0, v1, v2, v3, .ref a, .int 1]))]) hP hD [0] [1] rfl rfl (by decide) (by decide) hk1 hFc hP1 hD1
  have hK := (hK.sub (tys' := []) [] rfl).app hK1
  generalize H1 = H at hP hS ⊢
  have hP : va_P (dC, dI) vwCl [(a, .inr (4, [w0, w1, .int 0])), (h0, .inr (15, [v0, v1, v2, v3, .ref a, .int 1]))] H := hP
  have hD : va_D A [(a, .inr (4, [w0, w1, .int 0])), (h0, .inr (15, [v0, v1, v2, v3, .ref a, .int 1]))] := hD
  have hK : va_K (dC, dI) vwCl [] s := hK
  refine W.widen (k := 0) (n := 0) (Nat.le_of_ble_eq_true rfl) (Nat.le_of_ble_eq_true rfl) ?_
  have hw : r_386 = 1 := hw
  subst hw
  refine lv_if_ne (tgt := 38) hx hb dX10_getSpectrum_20 (by decide) (fun c_387 => ?_) (fun c_387 => absurd c_387 (by decide))
  refine lv_iconst (v := 0) hx hb dX10_getSpectrum_38 (by decide) ?_
  have hP9 := hP.sub (ws' := [(h0, .inr (15, [v0, v1, v2, v3, .ref a, .int 1])), (a, .inr (4, [w0, w1, .int 0]))]) [1, 0] rfl
  have hD9 := hD.sub (ws' := [(h0, .inr (15, [v0, v1, v2, v3, .ref a, .int 1])), (a, .inr (4, [w0, w1, .int 0]))]) [1, 0] (by decide) rfl
  have hK9 := hK.sub (tys' := []) [] rfl
  refine W.widen (k := 0) (n := 0) (Nat.le_of_ble_eq_true rfl) (Nat.le_of_ble_eq_true rfl) ?_
  exact W.iret (v := 0) hx hb hr (fun t ht hW => ⟨⟨0, (), rfl, rfl, ⟨by rw [ht]; exact hP9, va_K.moved hW.alike hK9, hD9⟩⟩, hS.F ht⟩) hS.2.2 dX10_getSpectrum_39
set_option maxHeartbeats 4000000 in
set_option maxRecDepth 100000 in
theorem z_spectrumOk (l : Launch) (dC : Nat → ClassId) (dI : Nat → Nat → Nat) (sz : Nat) (h0 : Nat) (a : Nat) (v0 : Value) (v1 : Value) (v2 : Value) (v3 : Value) (w0 : Value) (w1 : Value) (th : Int32) (p0 : Int32) (h1 : ¬ p0 < 4) (h2 : ¬ 64 < p0) : Met l yX10_getSpectrum (pw_ws yX10_getSpectrum cX10_getSpectrum 6 (some .int)) ({ frames := 2, cells := 0, slots := 0, locals := 42 } : Room) (va_Pc [.ref h0, .int p0] (fun U => U.heap.size = sz ∧ va_P (dC, dI) vwCl [(h0, .inr (15, [v0, v1, v2, v3, .ref a, .int th])), (a, .inr (4, [w0, w1, .int 0]))] U.heap ∧ va_K (dC, dI) vwCl [] U ∧ va_D (fun _ => True) [(h0, .inr (15, [v0, v1, v2, v3, .ref a, .int th])), (a, .inr (4, [w0, w1, .int 0]))])) (va_Qi (fun (r : Int32) (_ : Unit) => r = 0) (fun (_ : Unit) (t : State) => va_P (dC, dI) vwCl [(h0, .inr (15, [v0, v1, v2, v3, .ref a, .int 2])), (a, .inr (4, [w0, w1, .int 0]))] t.heap ∧ va_K (dC, dI) vwCl [] t ∧ va_D (va_A [(h0, .inr (15, [v0, v1, v2, v3, .ref a, .int th])), (a, .inr (4, [w0, w1, .int 0]))] sz) [(h0, .inr (15, [v0, v1, v2, v3, .ref a, .int 2])), (a, .inr (4, [w0, w1, .int 0]))]) (va_A [(h0, .inr (15, [v0, v1, v2, v3, .ref a, .int th])), (a, .inr (4, [w0, w1, .int 0]))] sz)) 0 0 (va_A [(h0, .inr (15, [v0, v1, v2, v3, .ref a, .int th])), (a, .inr (4, [w0, w1, .int 0]))] sz) := by
  refine Met.ofW (cc := cX10_getSpectrum) (maxL := 6) (ret := (some .int)) (by decide) rfl ?_
  intro p e s m args below meth c s₁ B hml hv
  obtain ⟨rfl, hsz, hP, hK, hD0⟩ := hv
  have hx := B.exec
  have hb := B.bytes
  have hr := B.returns
  have hts0 := atoms_spec (ws := (pw_ws yX10_getSpectrum cX10_getSpectrum 6 (some .int))) B.pre
  have hts : ∀ w ∈ pw_all, w.before _ s = true := fun w h => hts0 w (List.mem_cons_of_mem _ h)
  have hown : s.vm.findClass RX10 = some m.cls := findClass_of_methodNamed B.named
  have hlocks := B.notSynchronized
  subst hsz
  have hD := hD0.self (sz := s.heap.size)
  generalize hAe : va_A [(h0, .inr (15, [v0, v1, v2, v3, .ref a, .int th])), (a, .inr (4, [w0, w1, .int 0]))] s.heap.size = A at hD ⊢
  have hA : ∀ q : Nat, s.heap.size ≤ q → A q := fun q h => by rw [← hAe]; exact Or.inr h
  have hS : va_S A s.heap s.heap [] := va_S.rf
  have hP : va_P (dC, dI) vwCl [(h0, .inr (15, [v0, v1, v2, v3, .ref a, .int th])), (a, .inr (4, [w0, w1, .int 0]))] s.heap := hP
  have hl := lv_entry ([.ref h0, .int p0]) (n := 6) (Nat.le_of_ble_eq_true rfl)
  rw [lg_entry_eq]
  generalize (lg_sl ([.ref h0, .int p0]) ++ List.replicate (6 - (lg_sl ([.ref h0, .int p0])).length) Slot.unset).toArray = ls at hl ⊢
  have hl : lv_has ls 6 [(0, .ref h0), (1, .int p0)] := hl
  skip
  refine lv_aload_n hx hb dX10_getSpectrum_0 rfl (lv_at hl 0 rfl) ?_
  refine lv_iload_n hx hb dX10_getSpectrum_1 rfl (lv_at hl 1 rfl) ?_
  refine lv_iconst (v := 4) hx hb dX10_getSpectrum_2 (by decide) ?_
  refine lv_bipush (v := 64) hx hb dX10_getSpectrum_3 (by decide) ?_
  have hPc := hP.sub (ws' := []) [] rfl
  have hDc := hD.sub (ws' := []) [] (by decide) rfl
  have hKc := hK.sub (tys' := []) [] rfl
  have hFc := va_free (wc := []) hD hS hA [] rfl
  refine va_calli (va_runS (As := [.int p0, .int 4, .int 64]) (rest := [.ref h0]) ⟨hx, hb, hml, hown, hts⟩ (n_isIn1 l dC dI s.heap.size p0 4 64 h1 h2) (va_cwS 3 hts (pw_S q1299 q1300 q49 q1301) rfl rfl rfl (by decide +kernel) ⟨(Nat.le_of_ble_eq_true rfl), (Nat.le_of_ble_eq_true rfl)⟩) ⟨fun a U g mk q => by obtain ⟨q0, q1, qP, qK, qD⟩ := q; exact ⟨q0, q1, qP, va_K.moved (u := U) (U := U.calling g mk a) (Vm.Alike.refl U.vm) qK, qD⟩, fun U hU hW => ⟨rfl, by rw [hU], by rw [hU]; exact hPc, va_K.moved hW.alike hKc, hDc.weaken (fun _ _ _ _ => trivial)⟩⟩ rfl rfl hl.1 rfl (lv_room (Nat.le_of_ble_eq_true rfl)) dX10_getSpectrum_5 ⟨(Nat.le_of_ble_eq_true rfl), (Nat.le_of_ble_eq_true rfl)⟩) hS (fun q _ h => hFc q h) hFc (fun r_388 u t H1 locs ht hvm hw hB hz1 hk1 hS => ?_)
  obtain ⟨hP1, hK1, hD1⟩ := hB
  rw [ht] at hP1
  have hK1 := va_K.moved hvm.symm hK1
  obtain ⟨hP, hD⟩ := va_join (wr := [(h0, .inr (15, [v0, v1, v2, v3, .ref a, .int th])), (a, .inr (4, [w0, w1, .int 0]))]) (w1 := []) hP hD [] [0, 1] rfl rfl (by decide) (by decide) hk1 hFc hP1 hD1
  have hK := (hK.sub (tys' := []) [] rfl).app hK1
  generalize H1 = H at hP hS ⊢
  have hP : va_P (dC, dI) vwCl [(h0, .inr (15, [v0, v1, v2, v3, .ref a, .int th])), (a, .inr (4, [w0, w1, .int 0]))] H := hP
  have hD : va_D A [(h0, .inr (15, [v0, v1, v2, v3, .ref a, .int th])), (a, .inr (4, [w0, w1, .int 0]))] := hD
  have hK : va_K (dC, dI) vwCl [] s := hK
  refine W.widen (k := 0) (n := 0) (Nat.le_of_ble_eq_true rfl) (Nat.le_of_ble_eq_true rfl) ?_
  have hw : r_388 = 1 := hw
  subst hw
  refine lv_if_ne (tgt := 15) hx hb dX10_getSpectrum_8 (by decide) (fun c_389 => ?_) (fun c_389 => absurd c_389 (by decide))
  refine lv_iconst (v := 0) hx hb dX10_getSpectrum_15 (by decide) ?_
  refine lv_iconst (v := 1) hx hb dX10_getSpectrum_16 (by decide) ?_
  have hPc := hP.sub (ws' := [(h0, .inr (15, [v0, v1, v2, v3, .ref a, .int th]))]) [0] rfl
  have hDc := hD.sub (ws' := [(h0, .inr (15, [v0, v1, v2, v3, .ref a, .int th]))]) [0] (by decide) rfl
  have hKc := hK.sub (tys' := []) [] rfl
  have hFc := va_free (wc := [(h0, .inr (15, [v0, v1, v2, v3, .ref a, .int th]))]) hD hS hA [0] rfl
  refine va_calli (va_runV (As := [.int 0, .int 1]) (rest := []) ⟨hx, hb, hml, hown, hts⟩ (n_isThrown0 l dC dI H.size h0 v0 v1 v2 v3 (.ref a) th 1) (cwV 2 hts (pw_V q1253 q1255 q19 q49 q1256) rfl rfl rfl (by decide +kernel) ⟨(Nat.le_of_ble_eq_true rfl), (Nat.le_of_ble_eq_true rfl)⟩) ⟨fun a U g mk q => by obtain ⟨q0, q1, qP, qK, qD⟩ := q; exact ⟨q0, q1, qP, va_K.moved (u := U) (U := U.calling g mk a) (Vm.Alike.refl U.vm) qK, qD⟩, va_recv hKc hPc (ci := 15) (q0 := 0) rfl rfl, fun U hU hW => ⟨rfl, by rw [hU], by rw [hU]; exact hPc, va_K.moved hW.alike hKc, hDc.weaken (fun _ _ _ _ => trivial)⟩⟩ rfl rfl hl.1 rfl (lv_room (Nat.le_of_ble_eq_true rfl)) dX10_getSpectrum_17 ⟨(Nat.le_of_ble_eq_true rfl), (Nat.le_of_ble_eq_true rfl)⟩) hS (fun q _ h => hFc q h) hFc (fun r_390 u t H1 locs ht hvm hw hB hz1 hk1 hS => ?_)
  obtain ⟨hP1, hK1, hD1⟩ := hB
  rw [ht] at hP1
  have hK1 := va_K.moved hvm.symm hK1
  obtain ⟨hP, hD⟩ := va_join (wr := [(a, .inr (4, [w0, w1, .int 0]))]) (w1 := [(h0, .inr (15, [v0, v1, v2, v3, .ref a, .int 0]))]) hP hD [0] [1] rfl rfl (by decide) (by decide) hk1 hFc hP1 hD1
  have hK := (hK.sub (tys' := []) [] rfl).app hK1
  generalize H1 = H at hP hS ⊢
  have hP : va_P (dC, dI) vwCl [(a, .inr (4, [w0, w1, .int 0])), (h0, .inr (15, [v0, v1, v2, v3, .ref a, .int 0]))] H := hP
  have hD : va_D A [(a, .inr (4, [w0, w1, .int 0])), (h0, .inr (15, [v0, v1, v2, v3, .ref a, .int 0]))] := hD
  have hK : va_K (dC, dI) vwCl [] s := hK
  refine W.widen (k := 0) (n := 0) (Nat.le_of_ble_eq_true rfl) (Nat.le_of_ble_eq_true rfl) ?_
  have hw : r_390 = 0 := hw
  subst hw
  refine lv_if_ne (tgt := 38) hx hb dX10_getSpectrum_20 (by decide) (fun c_391 => absurd (by decide) c_391) (fun c_391 => ?_)
  refine lv_aload_n hx hb dX10_getSpectrum_23 rfl (lv_at hl 0 rfl) ?_
  refine lv_aload_n hx hb dX10_getSpectrum_24 rfl (lv_at hl 0 rfl) ?_
  refine va_get (D := (dC, dI)) (ci := 15) (v := .ref a) (C := RX10) (T := TX10) (N := 6) hx hb hts inX10 hown hK hP 1 rfl rfl 4 (by decide) (hts _ q1229) (fun _ h9 => h9) rfl dX10_getSpectrum_25 ?_
  have hPc := hP.sub (ws' := [(a, .inr (4, [w0, w1, .int 0]))]) [0] rfl
  have hDc := hD.sub (ws' := [(a, .inr (4, [w0, w1, .int 0]))]) [0] (by decide) rfl
  have hKc := hK.sub (tys' := []) [] rfl
  have hFc := va_free (wc := [(a, .inr (4, [w0, w1, .int 0]))]) hD hS hA [0] rfl
  refine va_calli (va_runV (As := []) (rest := [.ref h0]) ⟨hx, hb, hml, hown, hts⟩ (m_isEmpty l dC dI H.size a w0 w1) (cwV 0 hts (pw_V q1389 q1390 q1391 q46 q1392) rfl rfl rfl (by decide +kernel) ⟨(Nat.le_of_ble_eq_true rfl), (Nat.le_of_ble_eq_true rfl)⟩) ⟨fun a U g mk q => by obtain ⟨q0, q1, qP, qK, qD⟩ := q; exact ⟨q0, q1, qP, va_K.moved (u := U) (U := U.calling g mk a) (Vm.Alike.refl U.vm) qK, qD⟩, va_recv hKc hPc (ci := 4) (q0 := 0) rfl rfl, fun U hU hW => ⟨rfl, by rw [hU], by rw [hU]; exact hPc, va_K.moved hW.alike hKc, hDc.weaken (fun _ _ _ _ => trivial)⟩⟩ rfl rfl hl.1 rfl (lv_room (Nat.le_of_ble_eq_true rfl)) dX10_getSpectrum_28 ⟨(Nat.le_of_ble_eq_true rfl), (Nat.le_of_ble_eq_true rfl)⟩) hS (fun q _ h => hFc q h) hFc (fun r_392 u t H1 locs ht hvm hw hB hz1 hk1 hS => ?_)
  obtain ⟨hP1, hK1, hD1⟩ := hB
  rw [ht] at hP1
  have hK1 := va_K.moved hvm.symm hK1
  obtain ⟨hP, hD⟩ := va_join (wr := [(h0, .inr (15, [v0, v1, v2, v3, .ref a, .int 0]))]) (w1 := [(a, .inr (4, [w0, w1, .int 0]))]) hP hD [0] [1] rfl rfl (by decide) (by decide) hk1 hFc hP1 hD1
  have hK := (hK.sub (tys' := []) [] rfl).app hK1
  generalize H1 = H at hP hS ⊢
  have hP : va_P (dC, dI) vwCl [(h0, .inr (15, [v0, v1, v2, v3, .ref a, .int 0])), (a, .inr (4, [w0, w1, .int 0]))] H := hP
  have hD : va_D A [(h0, .inr (15, [v0, v1, v2, v3, .ref a, .int 0])), (a, .inr (4, [w0, w1, .int 0]))] := hD
  have hK : va_K (dC, dI) vwCl [] s := hK
  refine W.widen (k := 0) (n := 0) (Nat.le_of_ble_eq_true rfl) (Nat.le_of_ble_eq_true rfl) ?_
  have hw : r_392 = 1 := hw
  subst hw
  refine lv_iconst (v := 2) hx hb dX10_getSpectrum_31 (by decide) ?_
  have hPc := hP.sub (ws' := [(h0, .inr (15, [v0, v1, v2, v3, .ref a, .int 0]))]) [0] rfl
  have hDc := hD.sub (ws' := [(h0, .inr (15, [v0, v1, v2, v3, .ref a, .int 0]))]) [0] (by decide) rfl
  have hKc := hK.sub (tys' := []) [] rfl
  have hFc := va_free (wc := [(h0, .inr (15, [v0, v1, v2, v3, .ref a, .int 0]))]) hD hS hA [0] rfl
  refine va_calli (va_runV (As := [.int 1, .int 2]) (rest := []) ⟨hx, hb, hml, hown, hts⟩ (n_isThrown1 l dC dI H.size h0 v0 v1 v2 v3 (.ref a) 0 2) (cwV 2 hts (pw_V q1253 q1255 q19 q49 q1256) rfl rfl rfl (by decide +kernel) ⟨(Nat.le_of_ble_eq_true rfl), (Nat.le_of_ble_eq_true rfl)⟩) ⟨fun a U g mk q => by obtain ⟨q0, q1, qP, qK, qD⟩ := q; exact ⟨q0, q1, qP, va_K.moved (u := U) (U := U.calling g mk a) (Vm.Alike.refl U.vm) qK, qD⟩, va_recv hKc hPc (ci := 15) (q0 := 0) rfl rfl, fun U hU hW => ⟨rfl, by rw [hU], by rw [hU]; exact hPc, va_K.moved hW.alike hKc, hDc.weaken (fun _ _ _ _ => trivial)⟩⟩ rfl rfl hl.1 rfl (lv_room (Nat.le_of_ble_eq_true rfl)) dX10_getSpectrum_32 ⟨(Nat.le_of_ble_eq_true rfl), (Nat.le_of_ble_eq_true rfl)⟩) hS (fun q _ h => hFc q h) hFc (fun r_393 u t H1 locs ht hvm hw hB hz1 hk1 hS => ?_)
  obtain ⟨hP1, hK1, hD1⟩ := hB
  rw [ht] at hP1
  have hK1 := va_K.moved hvm.symm hK1
  obtain ⟨hP, hD⟩ := va_join (wr := [(a, .inr (4, [w0, w1, .int 0]))]) (w1 := [(h0, .inr (15, [v0, v1, v2, v3, .ref a, .int 2]))]) hP hD [0] [1] rfl rfl (by decide) (by decide) hk1 hFc hP1 hD1
  have hK := (hK.sub (tys' := []) [] rfl).app hK1
  generalize H1 = H at hP hS ⊢
  have hP : va_P (dC, dI) vwCl [(a, .inr (4, [w0, w1, .int 0])), (h0, .inr (15, [v0, v1, v2, v3, .ref a, .int 2]))] H := hP
  have hD : va_D A [(a, .inr (4, [w0, w1, .int 0])), (h0, .inr (15, [v0, v1, v2, v3, .ref a, .int 2]))] := hD
  have hK : va_K (dC, dI) vwCl [] s := hK
  refine W.widen (k := 0) (n := 0) (Nat.le_of_ble_eq_true rfl) (Nat.le_of_ble_eq_true rfl) ?_
  have hw : r_393 = 1 := hw
  subst hw
  refine lv_if_eq (tgt := 40) hx hb dX10_getSpectrum_35 (by decide) (fun c_394 => absurd c_394 (by decide)) (fun c_394 => ?_)
  refine lv_iconst (v := 0) hx hb dX10_getSpectrum_38 (by decide) ?_
  have hP9 := hP.sub (ws' := [(h0, .inr (15, [v0, v1, v2, v3, .ref a, .int 2])), (a, .inr (4, [w0, w1, .int 0]))]) [1, 0] rfl
  have hD9 := hD.sub (ws' := [(h0, .inr (15, [v0, v1, v2, v3, .ref a, .int 2])), (a, .inr (4, [w0, w1, .int 0]))]) [1, 0] (by decide) rfl
  have hK9 := hK.sub (tys' := []) [] rfl
  refine W.widen (k := 0) (n := 0) (Nat.le_of_ble_eq_true rfl) (Nat.le_of_ble_eq_true rfl) ?_
  exact W.iret (v := 0) hx hb hr (fun t ht hW => ⟨⟨0, (), rfl, rfl, ⟨by rw [ht]; exact hP9, va_K.moved hW.alike hK9, hD9⟩⟩, hS.F ht⟩) hS.2.2 dX10_getSpectrum_39
set_option maxHeartbeats 4000000 in
set_option maxRecDepth 100000 in
theorem z_typeBad (l : Launch) (dC : Nat → ClassId) (dI : Nat → Nat → Nat) (sz : Nat) (h0 : Nat) (v0 : Value) (v1 : Value) (v2 : Value) (v3 : Value) (v4 : Value) (th : Int32) (p0 : Int32) (h1 : p0 < (-99999) ∨ 99999 < p0) : Met l yX10_type (pw_ws yX10_type cX10_type 2 (some .int)) ({ frames := 2, cells := 0, slots := 0, locals := 42 } : Room) (va_Pc [.ref h0, .int p0] (fun U => U.heap.size = sz ∧ va_P (dC, dI) vwCl [(h0, .inr (15, [v0, v1, v2, v3, v4, .int th]))] U.heap ∧ va_K (dC, dI) vwCl [] U ∧ va_D (fun _ => True) [(h0, .inr (15, [v0, v1, v2, v3, v4, .int th]))])) (va_Qi (fun (r : Int32) (_ : Unit) => r = 0) (fun (_ : Unit) (t : State) => va_P (dC, dI) vwCl [(h0, .inr (15, [v0, v1, v2, v3, v4, .int 1]))] t.heap ∧ va_K (dC, dI) vwCl [] t ∧ va_D (va_A [(h0, .inr (15, [v0, v1, v2, v3, v4, .int th]))] sz) [(h0, .inr (15, [v0, v1, v2, v3, v4, .int 1]))]) (va_A [(h0, .inr (15, [v0, v1, v2, v3, v4, .int th]))] sz)) 0 0 (va_A [(h0, .inr (15, [v0, v1, v2, v3, v4, .int th]))] sz) := by
  refine Met.ofW (cc := cX10_type) (maxL := 2) (ret := (some .int)) (by decide) rfl ?_
  intro p e s m args below meth c s₁ B hml hv
  obtain ⟨rfl, hsz, hP, hK, hD0⟩ := hv
  have hx := B.exec
  have hb := B.bytes
  have hr := B.returns
  have hts0 := atoms_spec (ws := (pw_ws yX10_type cX10_type 2 (some .int))) B.pre
  have hts : ∀ w ∈ pw_all, w.before _ s = true := fun w h => hts0 w (List.mem_cons_of_mem _ h)
  have hown : s.vm.findClass RX10 = some m.cls := findClass_of_methodNamed B.named
  have hlocks := B.notSynchronized
  subst hsz
  have hD := hD0.self (sz := s.heap.size)
  generalize hAe : va_A [(h0, .inr (15, [v0, v1, v2, v3, v4, .int th]))] s.heap.size = A at hD ⊢
  have hA : ∀ q : Nat, s.heap.size ≤ q → A q := fun q h => by rw [← hAe]; exact Or.inr h
  have hS : va_S A s.heap s.heap [] := va_S.rf
  have hP : va_P (dC, dI) vwCl [(h0, .inr (15, [v0, v1, v2, v3, v4, .int th]))] s.heap := hP
  have hl := lv_entry ([.ref h0, .int p0]) (n := 2) (Nat.le_of_ble_eq_true rfl)
  rw [lg_entry_eq]
  generalize (lg_sl ([.ref h0, .int p0]) ++ List.replicate (2 - (lg_sl ([.ref h0, .int p0])).length) Slot.unset).toArray = ls at hl ⊢
  have hl : lv_has ls 2 [(0, .ref h0), (1, .int p0)] := hl
  skip
  refine lv_aload_n hx hb dX10_type_0 rfl (lv_at hl 0 rfl) ?_
  refine lv_iload_n hx hb dX10_type_1 rfl (lv_at hl 1 rfl) ?_
  refine lv_ldcw (v := -99999) hx hb hown (hts _ q1969) dX10_type_2 ?_
  refine lv_ldc (v := 99999) hx hb hown (hts _ q1443) dX10_type_5 ?_
  have hPc := hP.sub (ws' := []) [] rfl
  have hDc := hD.sub (ws' := []) [] (by decide) rfl
  have hKc := hK.sub (tys' := []) [] rfl
  have hFc := va_free (wc := []) hD hS hA [] rfl
  refine va_calli (va_runS (As := [.int p0, .int (-99999), .int 99999]) (rest := [.ref h0]) ⟨hx, hb, hml, hown, hts⟩ (n_isIn0 l dC dI s.heap.size p0 (-99999) 99999 h1) (va_cwS 3 hts (pw_S q1299 q1300 q49 q1301) rfl rfl rfl (by decide +kernel) ⟨(Nat.le_of_ble_eq_true rfl), (Nat.le_of_ble_eq_true rfl)⟩) ⟨fun a U g mk q => by obtain ⟨q0, q1, qP, qK, qD⟩ := q; exact ⟨q0, q1, qP, va_K.moved (u := U) (U := U.calling g mk a) (Vm.Alike.refl U.vm) qK, qD⟩, fun U hU hW => ⟨rfl, by rw [hU], by rw [hU]; exact hPc, va_K.moved hW.alike hKc, hDc.weaken (fun _ _ _ _ => trivial)⟩⟩ rfl rfl hl.1 rfl (lv_room (Nat.le_of_ble_eq_true rfl)) dX10_type_7 ⟨(Nat.le_of_ble_eq_true rfl), (Nat.le_of_ble_eq_true rfl)⟩) hS (fun q _ h => hFc q h) hFc (fun r_395 u t H1 locs ht hvm hw hB hz1 hk1 hS => ?_)
  obtain ⟨hP1, hK1, hD1⟩ := hB
  rw [ht] at hP1
  have hK1 := va_K.moved hvm.symm hK1
  obtain ⟨hP, hD⟩ := va_join (wr := [(h0, .inr (15, [v0, v1, v2, v3, v4, .int th]))]) (w1 := []) hP hD [] [0] rfl rfl (by decide) (by decide) hk1 hFc hP1 hD1
  have hK := (hK.sub (tys' := []) [] rfl).app hK1
  generalize H1 = H at hP hS ⊢
  have hP : va_P (dC, dI) vwCl [(h0, .inr (15, [v0, v1, v2, v3, v4, .int th]))] H := hP
  have hD : va_D A [(h0, .inr (15, [v0, v1, v2, v3, v4, .int th]))] := hD
  have hK : va_K (dC, dI) vwCl [] s := hK
  refine W.widen (k := 0) (n := 0) (Nat.le_of_ble_eq_true rfl) (Nat.le_of_ble_eq_true rfl) ?_
  have hw : r_395 = 0 := hw
  subst hw
  refine lv_if_ne (tgt := 17) hx hb dX10_type_10 (by decide) (fun c_396 => absurd (by decide) c_396) (fun c_396 => ?_)
  refine lv_iconst (v := 1) hx hb dX10_type_13 (by decide) ?_
  refine lv_goto (tgt := 18) hx hb dX10_type_14 (by decide) ?_
  refine lv_iconst (v := 1) hx hb dX10_type_18 (by decide) ?_
  have hPc := hP.sub (ws' := [(h0, .inr (15, [v0, v1, v2, v3, v4, .int th]))]) [0] rfl
  have hDc := hD.sub (ws' := [(h0, .inr (15, [v0, v1, v2, v3, v4, .int th]))]) [0] (by decide) rfl
  have hKc := hK.sub (tys' := []) [] rfl
  have hFc := va_free (wc := [(h0, .inr (15, [v0, v1, v2, v3, v4, .int th]))]) hD hS hA [0] rfl
  refine va_calli (va_runV (As := [.int 1, .int 1]) (rest := []) ⟨hx, hb, hml, hown, hts⟩ (n_isThrown1 l dC dI H.size h0 v0 v1 v2 v3 v4 th 1) (cwV 2 hts (pw_V q1253 q1255 q19 q49 q1256) rfl rfl rfl (by decide +kernel) ⟨(Nat.le_of_ble_eq_true rfl), (Nat.le_of_ble_eq_true rfl)⟩) ⟨fun a U g mk q => by obtain ⟨q0, q1, qP, qK, qD⟩ := q; exact ⟨q0, q1, qP, va_K.moved (u := U) (U := U.calling g mk a) (Vm.Alike.refl U.vm) qK, qD⟩, va_recv hKc hPc (ci := 15) (q0 := 0) rfl rfl, fun U hU hW => ⟨rfl, by rw [hU], by rw [hU]; exact hPc, va_K.moved hW.alike hKc, hDc.weaken (fun _ _ _ _ => trivial)⟩⟩ rfl rfl hl.1 rfl (lv_room (Nat.le_of_ble_eq_true rfl)) dX10_type_19 ⟨(Nat.le_of_ble_eq_true rfl), (Nat.le_of_ble_eq_true rfl)⟩) hS (fun q _ h => hFc q h) hFc (fun r_397 u t H1 locs ht hvm hw hB hz1 hk1 hS => ?_)
  obtain ⟨hP1, hK1, hD1⟩ := hB
  rw [ht] at hP1
  have hK1 := va_K.moved hvm.symm hK1
  obtain ⟨hP, hD⟩ := va_join (wr := []) (w1 := [(h0, .inr (15, [v0, v1, v2, v3, v4, .int 1]))]) hP hD [0] [] rfl rfl (by decide) (by decide) hk1 hFc hP1 hD1
  have hK := (hK.sub (tys' := []) [] rfl).app hK1
  generalize H1 = H at hP hS ⊢
  have hP : va_P (dC, dI) vwCl [(h0, .inr (15, [v0, v1, v2, v3, v4, .int 1]))] H := hP
  have hD : va_D A [(h0, .inr (15, [v0, v1, v2, v3, v4, .int 1]))] := hD
  have hK : va_K (dC, dI) vwCl [] s := hK
  refine W.widen (k := 0) (n := 0) (Nat.le_of_ble_eq_true rfl) (Nat.le_of_ble_eq_true rfl) ?_
  have hw : r_397 = 1 := hw
  subst hw
  refine lv_if_ne (tgt := 50) hx hb dX10_type_22 (by decide) (fun c_398 => ?_) (fun c_398 => absurd c_398 (by decide))
  refine lv_iconst (v := 0) hx hb dX10_type_50 (by decide) ?_
  have hP9 := hP.sub (ws' := [(h0, .inr (15, [v0, v1, v2, v3, v4, .int 1]))]) [0] rfl
  have hD9 := hD.sub (ws' := [(h0, .inr (15, [v0, v1, v2, v3, v4, .int 1]))]) [0] (by decide) rfl
  have hK9 := hK.sub (tys' := []) [] rfl
  refine W.widen (k := 0) (n := 0) (Nat.le_of_ble_eq_true rfl) (Nat.le_of_ble_eq_true rfl) ?_
  exact W.iret (v := 0) hx hb hr (fun t ht hW => ⟨⟨0, (), rfl, rfl, ⟨by rw [ht]; exact hP9, va_K.moved hW.alike hK9, hD9⟩⟩, hS.F ht⟩) hS.2.2 dX10_type_51
set_option maxHeartbeats 4000000 in
set_option maxRecDepth 100000 in
theorem z_isSound (l : Launch) (dC : Nat → ClassId) (dI : Nat → Nat → Nat) (sz : Nat) (h0 : Nat) (v0 : Value) (v1 : Value) (v2 : Value) (v3 : Value) (v4 : Value) (th : Int32) : Met l yX10_isSound (pw_ws yX10_isSound cX10_isSound 1 (some .boolean)) ({ frames := 1, cells := 0, slots := 0, locals := 20 } : Room) (va_Pc [.ref h0] (fun U => U.heap.size = sz ∧ va_P (dC, dI) vwCl [(h0, .inr (15, [v0, v1, v2, v3, v4, .int th]))] U.heap ∧ va_K (dC, dI) vwCl [] U ∧ va_D (fun _ => True) [(h0, .inr (15, [v0, v1, v2, v3, v4, .int th]))])) (va_Qi (fun (r : Int32) (_ : Unit) => r = 1) (fun (_ : Unit) (t : State) => va_P (dC, dI) vwCl [(h0, .inr (15, [v0, v1, v2, v3, v4, .int 0]))] t.heap ∧ va_K (dC, dI) vwCl [] t ∧ va_D (va_A [(h0, .inr (15, [v0, v1, v2, v3, v4, .int th]))] sz) [(h0, .inr (15, [v0, v1, v2, v3, v4, .int 0]))]) (va_A [(h0, .inr (15, [v0, v1, v2, v3, v4, .int th]))] sz)) 0 0 (va_A [(h0, .inr (15, [v0, v1, v2, v3, v4, .int th]))] sz) := by
  refine Met.ofW (cc := cX10_isSound) (maxL := 1) (ret := (some .boolean)) (by decide) rfl ?_
  intro p e s m args below meth c s₁ B hml hv
  obtain ⟨rfl, hsz, hP, hK, hD0⟩ := hv
  have hx := B.exec
  have hb := B.bytes
  have hr := B.returns
  have hts0 := atoms_spec (ws := (pw_ws yX10_isSound cX10_isSound 1 (some .boolean))) B.pre
  have hts : ∀ w ∈ pw_all, w.before _ s = true := fun w h => hts0 w (List.mem_cons_of_mem _ h)
  have hown : s.vm.findClass RX10 = some m.cls := findClass_of_methodNamed B.named
  have hlocks := B.notSynchronized
  subst hsz
  have hD := hD0.self (sz := s.heap.size)
  generalize hAe : va_A [(h0, .inr (15, [v0, v1, v2, v3, v4, .int th]))] s.heap.size = A at hD ⊢
  have hA : ∀ q : Nat, s.heap.size ≤ q → A q := fun q h => by rw [← hAe]; exact Or.inr h
  have hS : va_S A s.heap s.heap [] := va_S.rf
  have hP : va_P (dC, dI) vwCl [(h0, .inr (15, [v0, v1, v2, v3, v4, .int th]))] s.heap := hP
  have hl := lv_entry ([.ref h0]) (n := 1) (Nat.le_of_ble_eq_true rfl)
  rw [lg_entry_eq]
  generalize (lg_sl ([.ref h0]) ++ List.replicate (1 - (lg_sl ([.ref h0])).length) Slot.unset).toArray = ls at hl ⊢
  have hl : lv_has ls 1 [(0, .ref h0)] := hl
  skip
  refine lv_aload_n hx hb dX10_isSound_0 rfl (lv_at hl 0 rfl) ?_
  refine lv_iconst (v := 0) hx hb dX10_isSound_1 (by decide) ?_
  refine va_put (D := (dC, dI)) (ci := 15) (v := .int 0) (ty := .int) (C := RX10) (T := TX10) (N := 6) hx hb hts inX10 tyX10 tyX10_ok nmX10 hown hK hP hD hS 0 rfl rfl 5 (by decide) (hts _ q1230) (fun _ h9 => h9) rfl (by decide +kernel) rfl rfl (Nat.le_of_ble_eq_true rfl) dX10_isSound_2 (fun H locs hP hD hS => ?_)
  have hP : va_P (dC, dI) vwCl [(h0, .inr (15, [v0, v1, v2, v3, v4, .int 0]))] H := hP
  have hD : va_D A [(h0, .inr (15, [v0, v1, v2, v3, v4, .int 0]))] := hD
  refine lv_iconst (v := 1) hx hb dX10_isSound_5 (by decide) ?_
  have hP9 := hP.sub (ws' := [(h0, .inr (15, [v0, v1, v2, v3, v4, .int 0]))]) [0] rfl
  have hD9 := hD.sub (ws' := [(h0, .inr (15, [v0, v1, v2, v3, v4, .int 0]))]) [0] (by decide) rfl
  have hK9 := hK.sub (tys' := []) [] rfl
  refine W.widen (k := 0) (n := 0) (Nat.le_of_ble_eq_true rfl) (Nat.le_of_ble_eq_true rfl) ?_
  exact W.zret (v := 1) hx hb hr (by decide) (fun t ht hW => ⟨⟨1, (), rfl, rfl, ⟨by rw [ht]; exact hP9, va_K.moved hW.alike hK9, hD9⟩⟩, hS.F ht⟩) hS.2.2 dX10_isSound_6
set_option maxHeartbeats 4000000 in
set_option maxRecDepth 100000 in
theorem n_turns (l : Launch) (dC : Nat → ClassId) (dI : Nat → Nat → Nat) (sz : Nat) (ed : Nat) (a : Nat) (m0 : Int32) (w1 : Value) : Met l yX10_turns (pw_ws yX10_turns cX10_turns 5 (some (.object "java/util/ArrayList"))) ({ frames := 4, cells := 2, slots := 7, locals := 80 } : Room) (va_Pc [.ref a] (fun U => U.heap.size = sz ∧ va_P (dC, dI) vwCl [(a, .inr (4, [.int m0, w1, .int 0]))] U.heap ∧ va_K (dC, dI) vwCl [] U ∧ va_D (fun _ => True) [(a, .inr (4, [.int m0, w1, .int 0]))] ∧ pz ed (va_A [(a, .inr (4, [.int m0, w1, .int 0]))] sz) U U.heap)) (va_Qr (fun (_ : Unit) => True) (fun (_ : Unit) (ra : Nat) (t : State) => va_P (dC, dI) vwCl [(ra, .inr (4, [.int 0, .ref ed, .int 0])), (a, .inr (4, [.int m0, w1, .int 0]))] t.heap ∧ va_K (dC, dI) vwCl [] t ∧ va_D (va_A [(a, .inr (4, [.int m0, w1, .int 0]))] sz) [(ra, .inr (4, [.int 0, .ref ed, .int 0])), (a, .inr (4, [.int m0, w1, .int 0]))]) (va_A [(a, .inr (4, [.int m0, w1, .int 0]))] sz)) 2 7 (va_A [(a, .inr (4, [.int m0, w1, .int 0]))] sz) := by
  refine Met.ofW (cc := cX10_turns) (maxL := 5) (ret := (some (.object "java/util/ArrayList"))) (by decide) rfl ?_
  intro p e s m args below meth c s₁ B hml hv
  obtain ⟨rfl, hsz, hP, hK, hD0, hZ⟩ := hv
  have hx := B.exec
  have hb := B.bytes
  have hr := B.returns
  have hts0 := atoms_spec (ws := (pw_ws yX10_turns cX10_turns 5 (some (.object "java/util/ArrayList")))) B.pre
  have hts : ∀ w ∈ pw_all, w.before _ s = true := fun w h => hts0 w (List.mem_cons_of_mem _ h)
  have hown : s.vm.findClass RX10 = some m.cls := findClass_of_methodNamed B.named
  have hlocks := B.notSynchronized
  subst hsz
  have hD := hD0.self (sz := s.heap.size)
  generalize hAe : va_A [(a, .inr (4, [.int m0, w1, .int 0]))] s.heap.size = A at hD hZ ⊢
  have hA : ∀ q : Nat, s.heap.size ≤ q → A q := fun q h => by rw [← hAe]; exact Or.inr h
  have hS : va_S A s.heap s.heap [] := va_S.rf
  have hP : va_P (dC, dI) vwCl [(a, .inr (4, [.int m0, w1, .int 0]))] s.heap := hP
  have hl := lv_entry ([.ref a]) (n := 5) (Nat.le_of_ble_eq_true rfl)
  rw [lg_entry_eq]
  generalize (lg_sl ([.ref a]) ++ List.replicate (5 - (lg_sl ([.ref a])).length) Slot.unset).toArray = ls at hl ⊢
  have hl : lv_has ls 5 [(0, .ref a)] := hl
  skip
  refine va_new (ci := 4) (fs := [.int 0, .null, .int 0]) (C := RJx4a65c) (T := TJx4a65c) (N := 3) hx hb hts inJx4a65c tyJx4a65c tyJx4a65c_ok hown (hts _ q1223) (hts _ q89) (hts _ q46) hK hP hD hS hA rfl (fun j hj => by rcases (show j = 0 ∨ j = 1 ∨ j = 2 by omega) with rfl | rfl | rfl <;> rfl) (Nat.le_of_ble_eq_true rfl) (Nat.le_of_ble_eq_true rfl) dX10_turns_0 (fun q_399 H hP hD hS => ?_)
  have hP : va_P (dC, dI) vwCl [(a, .inr (4, [.int m0, w1, .int 0])), (q_399, .inr (4, [.int 0, .null, .int 0]))] H := hP
  have hD : va_D A [(a, .inr (4, [.int m0, w1, .int 0])), (q_399, .inr (4, [.int 0, .null, .int 0]))] := hD
  refine W.widen (k := 1) (n := 3) (Nat.le_of_ble_eq_true rfl) (Nat.le_of_ble_eq_true rfl) ?_
  refine lv_dup hx hb dX10_turns_3 rfl ?_
  have hPc := hP.sub (ws' := [(q_399, .inr (4, [.int 0, .null, .int 0]))]) [1] rfl
  have hDc := hD.sub (ws' := [(q_399, .inr (4, [.int 0, .null, .int 0]))]) [1] (by decide) rfl
  have hKc := hK.sub (tys' := []) [] rfl
  have hFc := va_free (wc := [(q_399, .inr (4, [.int 0, .null, .int 0]))]) hD hS hA [1] rfl
  refine va_callv (va_runI (As := []) (rest := [.ref q_399]) ⟨hx, hb, hml, hown, hts⟩ (m_listInit l dC dI H.size ed q_399 (.int 0) .null 0) (cwI 0 hts (pw_c q92) rfl rfl rfl (hts _ q46) (hts _ q1224) (hts _ q91) rfl (by decide +kernel) ⟨(Nat.le_of_ble_eq_true rfl), (Nat.le_of_ble_eq_true rfl)⟩) ⟨fun a U g mk q => by obtain ⟨q0, q1, qP, qK, qD, qZ⟩ := q; exact ⟨q0, q1, qP, va_K.moved (u := U) (U := U.calling g mk a) (Vm.Alike.refl U.vm) qK, qD, qZ.same rfl⟩, fun U hU hW => ⟨rfl, by rw [hU], by rw [hU]; exact hPc, va_K.moved hW.alike hKc, hDc.weaken (fun _ _ _ _ => trivial), hZ.call hS hFc hU hW⟩⟩ rfl rfl hl.1 rfl (lv_room (Nat.le_of_ble_eq_true rfl)) dX10_turns_4 ⟨(Nat.le_of_ble_eq_true rfl), (Nat.le_of_ble_eq_true rfl)⟩) hS (fun q _ h => hFc q h) hFc (fun u t H1 locs ht hvm hw hB hz1 hk1 hS => ?_)
  obtain ⟨hP1, hK1, hD1⟩ := hB
  rw [ht] at hP1
  have hK1 := va_K.moved hvm.symm hK1
  obtain ⟨hP, hD⟩ := va_join (wr := [(a, .inr (4, [.int m0, w1, .int 0]))]) (w1 := [(q_399, .inr (4, [.int 0, .ref ed, .int 0]))]) hP hD [1] [0] rfl rfl (by decide) (by decide) hk1 hFc hP1 hD1
  have hK := (hK.sub (tys' := []) [] rfl).app hK1
  generalize H1 = H at hP hS ⊢
  have hP : va_P (dC, dI) vwCl [(a, .inr (4, [.int m0, w1, .int 0])), (q_399, .inr (4, [.int 0, .ref ed, .int 0]))] H := hP
  have hD : va_D A [(a, .inr (4, [.int m0, w1, .int 0])), (q_399, .inr (4, [.int 0, .ref ed, .int 0]))] := hD
  have hK : va_K (dC, dI) vwCl [] s := hK
  refine W.widen (k := 1) (n := 3) (Nat.le_of_ble_eq_true rfl) (Nat.le_of_ble_eq_true rfl) ?_
  refine lv_astore_n (lv' := [(1, .ref q_399), (0, .ref a)]) hx hb dX10_turns_7 rfl hl (by decide) rfl (fun ls hl => ?_)
  refine lv_aload_n hx hb dX10_turns_8 rfl (lv_at hl 1 rfl) ?_
  have hPc := hP.sub (ws' := [(a, .inr (4, [.int m0, w1, .int 0]))]) [0] rfl
  have hDc := hD.sub (ws' := [(a, .inr (4, [.int m0, w1, .int 0]))]) [0] (by decide) rfl
  have hKc := hK.sub (tys' := []) [] rfl
  have hFc := va_free (wc := [(a, .inr (4, [.int m0, w1, .int 0]))]) hD hS hA [0] rfl
  refine va_callr (va_runV (As := []) (rest := []) ⟨hx, hb, hml, hown, hts⟩ (m_iterator l dC dI H.size a m0 w1 (.int 0)) (cwV 0 hts (pw_V q1522 q1523 q1524 q46 q1525) rfl rfl rfl (by decide +kernel) ⟨(Nat.le_of_ble_eq_true rfl), (Nat.le_of_ble_eq_true rfl)⟩) ⟨fun a U g mk q => by obtain ⟨q0, q1, qP, qK, qD⟩ := q; exact ⟨q0, q1, qP, va_K.moved (u := U) (U := U.calling g mk a) (Vm.Alike.refl U.vm) qK, qD⟩, va_recv hKc hPc (ci := 4) (q0 := 0) rfl rfl, fun U hU hW => ⟨rfl, by rw [hU], by rw [hU]; exact hPc, va_K.moved hW.alike hKc, hDc.weaken (fun _ _ _ _ => trivial)⟩⟩ rfl rfl hl.1 rfl (lv_room (Nat.le_of_ble_eq_true rfl)) dX10_turns_9 ⟨(Nat.le_of_ble_eq_true rfl), (Nat.le_of_ble_eq_true rfl)⟩) hS (fun q _ h => hFc q h) hFc (fun u r_401 t H1 locs ht hvm hw hB hz1 hk1 hS => ?_)
  obtain ⟨hP1, hK1, hD1⟩ := hB
  rw [ht] at hP1
  have hK1 := va_K.moved hvm.symm hK1
  obtain ⟨hP, hD⟩ := va_join (wr := [(q_399, .inr (4, [.int 0, .ref ed, .int 0]))]) (w1 := [(r_401, .inr (3, [.int 0, .int (-1), .int m0, .ref a])), (a, .inr (4, [.int m0, w1, .int 0]))]) hP hD [0] [1] rfl rfl (by decide) (by decide) hk1 hFc hP1 hD1
  have hK := (hK.sub (tys' := []) [] rfl).app hK1
  generalize H1 = H at hP hS ⊢
  have hP : va_P (dC, dI) vwCl [(q_399, .inr (4, [.int 0, .ref ed, .int 0])), (r_401, .inr (3, [.int 0, .int (-1), .int m0, .ref a])), (a, .inr (4, [.int m0, w1, .int 0]))] H := hP
  have hD : va_D A [(q_399, .inr (4, [.int 0, .ref ed, .int 0])), (r_401, .inr (3, [.int 0, .int (-1), .int m0, .ref a])), (a, .inr (4, [.int m0, w1, .int 0]))] := hD
  have hK : va_K (dC, dI) vwCl [] s := hK
  refine W.widen (k := 2) (n := 7) (Nat.le_of_ble_eq_true rfl) (Nat.le_of_ble_eq_true rfl) ?_
  refine lv_astore_n (lv' := [(2, .ref r_401), (1, .ref q_399), (0, .ref a)]) hx hb dX10_turns_12 rfl hl (by decide) rfl (fun ls hl => ?_)
  refine lv_aload_n hx hb dX10_turns_13 rfl (lv_at hl 0 rfl) ?_
  have hPc := hP.sub (ws' := [(r_401, .inr (3, [.int 0, .int (-1), .int m0, .ref a])), (a, .inr (4, [.int m0, w1, .int 0]))]) [1, 2] rfl
  have hDc := hD.sub (ws' := [(r_401, .inr (3, [.int 0, .int (-1), .int m0, .ref a])), (a, .inr (4, [.int m0, w1, .int 0]))]) [1, 2] (by decide) rfl
  have hKc := hK.sub (tys' := []) [] rfl
  have hFc := va_free (wc := [(r_401, .inr (3, [.int 0, .int (-1), .int m0, .ref a])), (a, .inr (4, [.int m0, w1, .int 0]))]) hD hS hA [1, 2] rfl
  refine va_callFi (va_runF (As := []) (rest := []) (hKc.1 3 _ rfl).2 ⟨hx, hb, hml, hown, hts⟩ (m_hasNext l dC dI H.size ed r_401 a (.int (-1)) (.int m0) (.int m0) w1) (va_cwF 0 hts (pw_F q1546 q1550 q1552 q70 q1554) rfl rfl rfl hZ.iter (by decide +kernel) ⟨(Nat.le_of_ble_eq_true rfl), (Nat.le_of_ble_eq_true rfl)⟩) ⟨fun a U g mk q => by obtain ⟨q0, q1, qP, qK, qD, qZ⟩ := q; exact ⟨q0, q1, qP, va_K.moved (u := U) (U := U.calling g mk a) (Vm.Alike.refl U.vm) qK, qD, qZ.same rfl⟩, va_recv hKc hPc (ci := 3) (q0 := 0) rfl rfl, fun U hU hW => ⟨rfl, by rw [hU], by rw [hU]; exact hPc, va_K.moved hW.alike hKc, hDc.weaken (fun _ _ _ _ => trivial), hZ.call hS hFc hU hW⟩⟩ rfl rfl hl.1 rfl (lv_room (Nat.le_of_ble_eq_true rfl)) dX10_turns_14 ⟨(Nat.le_of_ble_eq_true rfl), (Nat.le_of_ble_eq_true rfl)⟩) hS (fun q _ h => hFc q h) hFc (fun r_402 u t H1 locs ht hvm hw hB hz1 hk1 hS => ?_)
  obtain ⟨hP1, hK1, hD1⟩ := hB
  rw [ht] at hP1
  have hK1 := va_K.moved hvm.symm hK1
  obtain ⟨hP, hD⟩ := va_join (wr := [(q_399, .inr (4, [.int 0, .ref ed, .int 0]))]) (w1 := [(r_401, .inr (3, [.int 0, .int (-1), .int m0, .ref a])), (a, .inr (4, [.int m0, w1, .int 0]))]) hP hD [1, 2] [0] rfl rfl (by decide) (by decide) hk1 hFc hP1 hD1
  have hK := (hK.sub (tys' := []) [] rfl).app hK1
  generalize H1 = H at hP hS ⊢
  have hP : va_P (dC, dI) vwCl [(q_399, .inr (4, [.int 0, .ref ed, .int 0])), (r_401, .inr (3, [.int 0, .int (-1), .int m0, .ref a])), (a, .inr (4, [.int m0, w1, .int 0]))] H := hP
  have hD : va_D A [(q_399, .inr (4, [.int 0, .ref ed, .int 0])), (r_401, .inr (3, [.int 0, .int (-1), .int m0, .ref a])), (a, .inr (4, [.int m0, w1, .int 0]))] := hD
  have hK : va_K (dC, dI) vwCl [] s := hK
  refine W.widen (k := 2) (n := 7) (Nat.le_of_ble_eq_true rfl) (Nat.le_of_ble_eq_true rfl) ?_
  have hw : r_402 = 0 := hw
  subst hw
  refine lv_if_eq (tgt := 160) hx hb dX10_turns_19 (by decide) (fun c_403 => ?_) (fun c_403 => absurd (by decide) c_403)
  refine lv_aload_n hx hb dX10_turns_160 rfl (lv_at hl 1 rfl) ?_
  have hP9 := hP.sub (ws' := [(q_399, .inr (4, [.int 0, .ref ed, .int 0])), (a, .inr (4, [.int m0, w1, .int 0]))]) [0, 2] rfl
  have hD9 := hD.sub (ws' := [(q_399, .inr (4, [.int 0, .ref ed, .int 0])), (a, .inr (4, [.int m0, w1, .int 0]))]) [0, 2] (by decide) rfl
  have hK9 := hK.sub (tys' := []) [] rfl
  refine W.widen (k := 2) (n := 7) (Nat.le_of_ble_eq_true rfl) (Nat.le_of_ble_eq_true rfl) ?_
  exact W.aret (v := .ref q_399) hx hb hr (by first | exact Or.inl ⟨_, rfl⟩ | exact Or.inr ⟨_, rfl⟩) (Or.inr ⟨_, rfl⟩) (fun t ht hW => ⟨⟨(), q_399, rfl, trivial, ⟨by rw [ht]; exact hP9, va_K.moved hW.alike hK9, hD9⟩⟩, hS.F ht⟩) hS.2.2 dX10_turns_161
set_option maxHeartbeats 4000000 in
set_option maxRecDepth 100000 in
theorem n_rains (l : Launch) (dC : Nat → ClassId) (dI : Nat → Nat → Nat) (sz : Nat) (ed : Nat) (a : Nat) (cy : Nat) (m0 : Int32) (w1 : Value) : Met l yX10_rains (pw_ws yX10_rains cX10_rains 7 (some (.object "java/util/ArrayList"))) ({ frames := 5, cells := 4, slots := 14, locals := 104 } : Room) (va_Pc [.ref a, .ref cy] (fun U => U.heap.size = sz ∧ va_P (dC, dI) vwCl [(a, .inr (4, [.int m0, w1, .int 0]))] U.heap ∧ va_K (dC, dI) vwCl [] U ∧ va_D (fun _ => True) [(a, .inr (4, [.int m0, w1, .int 0]))] ∧ pz ed (va_A [(a, .inr (4, [.int m0, w1, .int 0]))] sz) U U.heap)) (va_Qr (fun (_ : Unit) => True) (fun (_ : Unit) (ra : Nat) (t : State) => va_P (dC, dI) vwCl [(ra, .inr (4, [.int 0, .ref ed, .int 0])), (a, .inr (4, [.int m0, w1, .int 0]))] t.heap ∧ va_K (dC, dI) vwCl [] t ∧ va_D (va_A [(a, .inr (4, [.int m0, w1, .int 0]))] sz) [(ra, .inr (4, [.int 0, .ref ed, .int 0])), (a, .inr (4, [.int m0, w1, .int 0]))]) (va_A [(a, .inr (4, [.int m0, w1, .int 0]))] sz)) 4 14 (va_A [(a, .inr (4, [.int m0, w1, .int 0]))] sz) := by
  refine Met.ofW (cc := cX10_rains) (maxL := 7) (ret := (some (.object "java/util/ArrayList"))) (by decide) rfl ?_
  intro p e s m args below meth c s₁ B hml hv
  obtain ⟨rfl, hsz, hP, hK, hD0, hZ⟩ := hv
  have hx := B.exec
  have hb := B.bytes
  have hr := B.returns
  have hts0 := atoms_spec (ws := (pw_ws yX10_rains cX10_rains 7 (some (.object "java/util/ArrayList")))) B.pre
  have hts : ∀ w ∈ pw_all, w.before _ s = true := fun w h => hts0 w (List.mem_cons_of_mem _ h)
  have hown : s.vm.findClass RX10 = some m.cls := findClass_of_methodNamed B.named
  have hlocks := B.notSynchronized
  subst hsz
  have hD := hD0.self (sz := s.heap.size)
  generalize hAe : va_A [(a, .inr (4, [.int m0, w1, .int 0]))] s.heap.size = A at hD hZ ⊢
  have hA : ∀ q : Nat, s.heap.size ≤ q → A q := fun q h => by rw [← hAe]; exact Or.inr h
  have hS : va_S A s.heap s.heap [] := va_S.rf
  have hP : va_P (dC, dI) vwCl [(a, .inr (4, [.int m0, w1, .int 0]))] s.heap := hP
  have hl := lv_entry ([.ref a, .ref cy]) (n := 7) (Nat.le_of_ble_eq_true rfl)
  rw [lg_entry_eq]
  generalize (lg_sl ([.ref a, .ref cy]) ++ List.replicate (7 - (lg_sl ([.ref a, .ref cy])).length) Slot.unset).toArray = ls at hl ⊢
  have hl : lv_has ls 7 [(0, .ref a), (1, .ref cy)] := hl
  skip
  refine va_new (ci := 4) (fs := [.int 0, .null, .int 0]) (C := RJx4a65c) (T := TJx4a65c) (N := 3) hx hb hts inJx4a65c tyJx4a65c tyJx4a65c_ok hown (hts _ q1223) (hts _ q89) (hts _ q46) hK hP hD hS hA rfl (fun j hj => by rcases (show j = 0 ∨ j = 1 ∨ j = 2 by omega) with rfl | rfl | rfl <;> rfl) (Nat.le_of_ble_eq_true rfl) (Nat.le_of_ble_eq_true rfl) dX10_rains_0 (fun q_404 H hP hD hS => ?_)
  have hP : va_P (dC, dI) vwCl [(a, .inr (4, [.int m0, w1, .int 0])), (q_404, .inr (4, [.int 0, .null, .int 0]))] H := hP
  have hD : va_D A [(a, .inr (4, [.int m0, w1, .int 0])), (q_404, .inr (4, [.int 0, .null, .int 0]))] := hD
  refine W.widen (k := 1) (n := 3) (Nat.le_of_ble_eq_true rfl) (Nat.le_of_ble_eq_true rfl) ?_
  refine lv_dup hx hb dX10_rains_3 rfl ?_
  have hPc := hP.sub (ws' := [(q_404, .inr (4, [.int 0, .null, .int 0]))]) [1] rfl
  have hDc := hD.sub (ws' := [(q_404, .inr (4, [.int 0, .null, .int 0]))]) [1] (by decide) rfl
  have hKc := hK.sub (tys' := []) [] rfl
  have hFc := va_free (wc := [(q_404, .inr (4, [.int 0, .null, .int 0]))]) hD hS hA [1] rfl
  refine va_callv (va_runI (As := []) (rest := [.ref q_404]) ⟨hx, hb, hml, hown, hts⟩ (m_listInit l dC dI H.size ed q_404 (.int 0) .null 0) (cwI 0 hts (pw_c q92) rfl rfl rfl (hts _ q46) (hts _ q1224) (hts _ q91) rfl (by decide +kernel) ⟨(Nat.le_of_ble_eq_true rfl), (Nat.le_of_ble_eq_true rfl)⟩) ⟨fun a U g mk q => by obtain ⟨q0, q1, qP, qK, qD, qZ⟩ := q; exact ⟨q0, q1, qP, va_K.moved (u := U) (U := U.calling g mk a) (Vm.Alike.refl U.vm) qK, qD, qZ.same rfl⟩, fun U hU hW => ⟨rfl, by rw [hU], by rw [hU]; exact hPc, va_K.moved hW.alike hKc, hDc.weaken (fun _ _ _ _ => trivial), hZ.call hS hFc hU hW⟩⟩ rfl rfl hl.1 rfl (lv_room (Nat.le_of_ble_eq_true rfl)) dX10_rains_4 ⟨(Nat.le_of_ble_eq_true rfl), (Nat.le_of_ble_eq_true rfl)⟩) hS (fun q _ h => hFc q h) hFc (fun u t H1 locs ht hvm hw hB hz1 hk1 hS => ?_)
  obtain ⟨hP1, hK1, hD1⟩ := hB
  rw [ht] at hP1
  have hK1 := va_K.moved hvm.symm hK1
  obtain ⟨hP, hD⟩ := va_join (wr := [(a, .inr (4, [.int m0, w1, .int 0]))]) (w1 := [(q_404, .inr (4, [.int 0, .ref ed, .int 0]))]) hP hD [1] [0] rfl rfl (by decide) (by decide) hk1 hFc hP1 hD1
  have hK := (hK.sub (tys' := []) [] rfl).app hK1
  generalize H1 = H at hP hS ⊢
  have hP : va_P (dC, dI) vwCl [(a, .inr (4, [.int m0, w1, .int 0])), (q_404, .inr (4, [.int 0, .ref ed, .int 0]))] H := hP
  have hD : va_D A [(a, .inr (4, [.int m0, w1, .int 0])), (q_404, .inr (4, [.int 0, .ref ed, .int 0]))] := hD
  have hK : va_K (dC, dI) vwCl [] s := hK
  refine W.widen (k := 1) (n := 3) (Nat.le_of_ble_eq_true rfl) (Nat.le_of_ble_eq_true rfl) ?_
  refine lv_astore_n (lv' := [(2, .ref q_404), (0, .ref a), (1, .ref cy)]) hx hb dX10_rains_7 rfl hl (by decide) rfl (fun ls hl => ?_)
  refine lv_aload_n hx hb dX10_rains_8 rfl (lv_at hl 1 rfl) ?_
  have hPc := hP.sub (ws' := [(a, .inr (4, [.int m0, w1, .int 0]))]) [0] rfl
  have hDc := hD.sub (ws' := [(a, .inr (4, [.int m0, w1, .int 0]))]) [0] (by decide) rfl
  have hKc := hK.sub (tys' := []) [] rfl
  have hFc := va_free (wc := [(a, .inr (4, [.int m0, w1, .int 0]))]) hD hS hA [0] rfl
  refine va_callr (va_runS (As := [.ref a]) (rest := []) ⟨hx, hb, hml, hown, hts⟩ (n_turns l dC dI H.size ed a m0 w1) (va_cwS 1 hts (pw_S q2017 q2018 q49 q2019) rfl rfl rfl (by decide +kernel) ⟨(Nat.le_of_ble_eq_true rfl), (Nat.le_of_ble_eq_true rfl)⟩) ⟨fun a U g mk q => by obtain ⟨q0, q1, qP, qK, qD, qZ⟩ := q; exact ⟨q0, q1, qP, va_K.moved (u := U) (U := U.calling g mk a) (Vm.Alike.refl U.vm) qK, qD, qZ.same rfl⟩, fun U hU hW => ⟨rfl, by rw [hU], by rw [hU]; exact hPc, va_K.moved hW.alike hKc, hDc.weaken (fun _ _ _ _ => trivial), hZ.call hS hFc hU hW⟩⟩ rfl rfl hl.1 rfl (lv_room (Nat.le_of_ble_eq_true rfl)) dX10_rains_9 ⟨(Nat.le_of_ble_eq_true rfl), (Nat.le_of_ble_eq_true rfl)⟩) hS (fun q _ h => hFc q h) hFc (fun u r_406 t H1 locs ht hvm hw hB hz1 hk1 hS => ?_)
  obtain ⟨hP1, hK1, hD1⟩ := hB
  rw [ht] at hP1
  have hK1 := va_K.moved hvm.symm hK1
  obtain ⟨hP, hD⟩ := va_join (wr := [(q_404, .inr (4, [.int 0, .ref ed, .int 0]))]) (w1 := [(r_406, .inr (4, [.int 0, .ref ed, .int 0])), (a, .inr (4, [.int m0, w1, .int 0]))]) hP hD [0] [1] rfl rfl (by decide) (by decide) hk1 hFc hP1 hD1
  have hK := (hK.sub (tys' := []) [] rfl).app hK1
  generalize H1 = H at hP hS ⊢
  have hP : va_P (dC, dI) vwCl [(q_404, .inr (4, [.int 0, .ref ed, .int 0])), (r_406, .inr (4, [.int 0, .ref ed, .int 0])), (a, .inr (4, [.int m0, w1, .int 0]))] H := hP
  have hD : va_D A [(q_404, .inr (4, [.int 0, .ref ed, .int 0])), (r_406, .inr (4, [.int 0, .ref ed, .int 0])), (a, .inr (4, [.int m0, w1, .int 0]))] := hD
  have hK : va_K (dC, dI) vwCl [] s := hK
  refine W.widen (k := 3) (n := 10) (Nat.le_of_ble_eq_true rfl) (Nat.le_of_ble_eq_true rfl) ?_
  have hPc := hP.sub (ws' := [(r_406, .inr (4, [.int 0, .ref ed, .int 0]))]) [1] rfl
  have hDc := hD.sub (ws' := [(r_406, .inr (4, [.int 0, .ref ed, .int 0]))]) [1] (by decide) rfl
  have hKc := hK.sub (tys' := []) [] rfl
  have hFc := va_free (wc := [(r_406, .inr (4, [.int 0, .ref ed, .int 0]))]) hD hS hA [1] rfl
  refine va_callr (va_runV (As := []) (rest := []) ⟨hx, hb, hml, hown, hts⟩ (m_iterator l dC dI H.size r_406 0 (.ref ed) (.int 0)) (cwV 0 hts (pw_V q1522 q1523 q1524 q46 q1525) rfl rfl rfl (by decide +kernel) ⟨(Nat.le_of_ble_eq_true rfl), (Nat.le_of_ble_eq_true rfl)⟩) ⟨fun a U g mk q => by obtain ⟨q0, q1, qP, qK, qD⟩ := q; exact ⟨q0, q1, qP, va_K.moved (u := U) (U := U.calling g mk a) (Vm.Alike.refl U.vm) qK, qD⟩, va_recv hKc hPc (ci := 4) (q0 := 0) rfl rfl, fun U hU hW => ⟨rfl, by rw [hU], by rw [hU]; exact hPc, va_K.moved hW.alike hKc, hDc.weaken (fun _ _ _ _ => trivial)⟩⟩ rfl rfl hl.1 rfl (lv_room (Nat.le_of_ble_eq_true rfl)) dX10_rains_12 ⟨(Nat.le_of_ble_eq_true rfl), (Nat.le_of_ble_eq_true rfl)⟩) hS (fun q _ h => hFc q h) hFc (fun u r_407 t H1 locs ht hvm hw hB hz1 hk1 hS => ?_)
  obtain ⟨hP1, hK1, hD1⟩ := hB
  rw [ht] at hP1
  have hK1 := va_K.moved hvm.symm hK1
  obtain ⟨hP, hD⟩ := va_join (wr := [(q_404, .inr (4, [.int 0, .ref ed, .int 0])), (a, .inr (4, [.int m0, w1, .int 0]))]) (w1 := [(r_407, .inr (3, [.int 0, .int (-1), .int 0, .ref r_406])), (r_406, .inr (4, [.int 0, .ref ed, .int 0]))]) hP hD [1] [0, 2] rfl rfl (by decide) (by decide) hk1 hFc hP1 hD1
  have hK := (hK.sub (tys' := []) [] rfl).app hK1
  generalize H1 = H at hP hS ⊢
  have hP : va_P (dC, dI) vwCl [(q_404, .inr (4, [.int 0, .ref ed, .int 0])), (a, .inr (4, [.int m0, w1, .int 0])), (r_407, .inr (3, [.int 0, .int (-1), .int 0, .ref r_406])), (r_406, .inr (4, [.int 0, .ref ed, .int 0]))] H := hP
  have hD : va_D A [(q_404, .inr (4, [.int 0, .ref ed, .int 0])), (a, .inr (4, [.int m0, w1, .int 0])), (r_407, .inr (3, [.int 0, .int (-1), .int 0, .ref r_406])), (r_406, .inr (4, [.int 0, .ref ed, .int 0]))] := hD
  have hK : va_K (dC, dI) vwCl [] s := hK
  refine W.widen (k := 4) (n := 14) (Nat.le_of_ble_eq_true rfl) (Nat.le_of_ble_eq_true rfl) ?_
  refine lv_astore_n (lv' := [(3, .ref r_407), (2, .ref q_404), (0, .ref a), (1, .ref cy)]) hx hb dX10_rains_15 rfl hl (by decide) rfl (fun ls hl => ?_)
  refine lv_aload_n hx hb dX10_rains_16 rfl (lv_at hl 0 rfl) ?_
  have hPc := hP.sub (ws' := [(r_407, .inr (3, [.int 0, .int (-1), .int 0, .ref r_406])), (r_406, .inr (4, [.int 0, .ref ed, .int 0]))]) [2, 3] rfl
  have hDc := hD.sub (ws' := [(r_407, .inr (3, [.int 0, .int (-1), .int 0, .ref r_406])), (r_406, .inr (4, [.int 0, .ref ed, .int 0]))]) [2, 3] (by decide) rfl
  have hKc := hK.sub (tys' := []) [] rfl
  have hFc := va_free (wc := [(r_407, .inr (3, [.int 0, .int (-1), .int 0, .ref r_406])), (r_406, .inr (4, [.int 0, .ref ed, .int 0]))]) hD hS hA [2, 3] rfl
  refine va_callFi (va_runF (As := []) (rest := []) (hKc.1 3 _ rfl).2 ⟨hx, hb, hml, hown, hts⟩ (m_hasNext l dC dI H.size ed r_407 r_406 (.int (-1)) (.int 0) (.int 0) (.ref ed)) (va_cwF 0 hts (pw_F q1546 q1550 q1552 q70 q1554) rfl rfl rfl hZ.iter (by decide +kernel) ⟨(Nat.le_of_ble_eq_true rfl), (Nat.le_of_ble_eq_true rfl)⟩) ⟨fun a U g mk q => by obtain ⟨q0, q1, qP, qK, qD, qZ⟩ := q; exact ⟨q0, q1, qP, va_K.moved (u := U) (U := U.calling g mk a) (Vm.Alike.refl U.vm) qK, qD, qZ.same rfl⟩, va_recv hKc hPc (ci := 3) (q0 := 0) rfl rfl, fun U hU hW => ⟨rfl, by rw [hU], by rw [hU]; exact hPc, va_K.moved hW.alike hKc, hDc.weaken (fun _ _ _ _ => trivial), hZ.call hS hFc hU hW⟩⟩ rfl rfl hl.1 rfl (lv_room (Nat.le_of_ble_eq_true rfl)) dX10_rains_17 ⟨(Nat.le_of_ble_eq_true rfl), (Nat.le_of_ble_eq_true rfl)⟩) hS (fun q _ h => hFc q h) hFc (fun r_408 u t H1 locs ht hvm hw hB hz1 hk1 hS => ?_)
  obtain ⟨hP1, hK1, hD1⟩ := hB
  rw [ht] at hP1
  have hK1 := va_K.moved hvm.symm hK1
  obtain ⟨hP, hD⟩ := va_join (wr := [(q_404, .inr (4, [.int 0, .ref ed, .int 0])), (a, .inr (4, [.int m0, w1, .int 0]))]) (w1 := [(r_407, .inr (3, [.int 0, .int (-1), .int 0, .ref r_406])), (r_406, .inr (4, [.int 0, .ref ed, .int 0]))]) hP hD [2, 3] [0, 1] rfl rfl (by decide) (by decide) hk1 hFc hP1 hD1
  have hK := (hK.sub (tys' := []) [] rfl).app hK1
  generalize H1 = H at hP hS ⊢
  have hP : va_P (dC, dI) vwCl [(q_404, .inr (4, [.int 0, .ref ed, .int 0])), (a, .inr (4, [.int m0, w1, .int 0])), (r_407, .inr (3, [.int 0, .int (-1), .int 0, .ref r_406])), (r_406, .inr (4, [.int 0, .ref ed, .int 0]))] H := hP
  have hD : va_D A [(q_404, .inr (4, [.int 0, .ref ed, .int 0])), (a, .inr (4, [.int m0, w1, .int 0])), (r_407, .inr (3, [.int 0, .int (-1), .int 0, .ref r_406])), (r_406, .inr (4, [.int 0, .ref ed, .int 0]))] := hD
  have hK : va_K (dC, dI) vwCl [] s := hK
  refine W.widen (k := 4) (n := 14) (Nat.le_of_ble_eq_true rfl) (Nat.le_of_ble_eq_true rfl) ?_
  have hw : r_408 = 0 := hw
  subst hw
  refine lv_if_eq (tgt := 140) hx hb dX10_rains_22 (by decide) (fun c_409 => ?_) (fun c_409 => absurd (by decide) c_409)
  refine lv_aload_n hx hb dX10_rains_140 rfl (lv_at hl 1 rfl) ?_
  have hP9 := hP.sub (ws' := [(q_404, .inr (4, [.int 0, .ref ed, .int 0])), (a, .inr (4, [.int m0, w1, .int 0]))]) [0, 1] rfl
  have hD9 := hD.sub (ws' := [(q_404, .inr (4, [.int 0, .ref ed, .int 0])), (a, .inr (4, [.int m0, w1, .int 0]))]) [0, 1] (by decide) rfl
  have hK9 := hK.sub (tys' := []) [] rfl
  refine W.widen (k := 4) (n := 14) (Nat.le_of_ble_eq_true rfl) (Nat.le_of_ble_eq_true rfl) ?_
  exact W.aret (v := .ref q_404) hx hb hr (by first | exact Or.inl ⟨_, rfl⟩ | exact Or.inr ⟨_, rfl⟩) (Or.inr ⟨_, rfl⟩) (fun t ht hW => ⟨⟨(), q_404, rfl, trivial, ⟨by rw [ht]; exact hP9, va_K.moved hW.alike hK9, hD9⟩⟩, hS.F ht⟩) hS.2.2 dX10_rains_141
set_option maxHeartbeats 4000000 in
set_option maxRecDepth 100000 in
theorem z_countCycles (l : Launch) (dC : Nat → ClassId) (dI : Nat → Nat → Nat) (sz : Nat) (ed : Nat) (h0 : Nat) (a : Nat) (v0 : Value) (v1 : Value) (v2 : Value) (v3 : Value) (th : Int32) (m0 : Int32) (w1 : Value) : Met l yX10_countCycles (pw_ws yX10_countCycles cX10_countCycles 3 (some .int)) ({ frames := 6, cells := 5, slots := 17, locals := 130 } : Room) (va_Pc [.ref h0] (fun U => U.heap.size = sz ∧ va_P (dC, dI) vwCl [(h0, .inr (15, [v0, v1, v2, v3, .ref a, .int th])), (a, .inr (4, [.int m0, w1, .int 0]))] U.heap ∧ va_K (dC, dI) vwCl [] U ∧ va_D (fun _ => True) [(h0, .inr (15, [v0, v1, v2, v3, .ref a, .int th])), (a, .inr (4, [.int m0, w1, .int 0]))] ∧ pz ed (va_A [(h0, .inr (15, [v0, v1, v2, v3, .ref a, .int th])), (a, .inr (4, [.int m0, w1, .int 0]))] sz) U U.heap)) (va_Qi (fun (r : Int32) (_ : Unit) => r = 0) (fun (_ : Unit) (t : State) => va_P (dC, dI) vwCl [(h0, .inr (15, [v0, v1, v2, v3, .ref a, .int 0])), (a, .inr (4, [.int m0, w1, .int 0]))] t.heap ∧ va_K (dC, dI) vwCl [] t ∧ va_D (va_A [(h0, .inr (15, [v0, v1, v2, v3, .ref a, .int th])), (a, .inr (4, [.int m0, w1, .int 0]))] sz) [(h0, .inr (15, [v0, v1, v2, v3, .ref a, .int 0])), (a, .inr (4, [.int m0, w1, .int 0]))]) (va_A [(h0, .inr (15, [v0, v1, v2, v3, .ref a, .int th])), (a, .inr (4, [.int m0, w1, .int 0]))] sz)) 5 17 (va_A [(h0, .inr (15, [v0, v1, v2, v3, .ref a, .int th])), (a, .inr (4, [.int m0, w1, .int 0]))] sz) := by
  refine Met.ofW (cc := cX10_countCycles) (maxL := 3) (ret := (some .int)) (by decide) rfl ?_
  intro p e s m args below meth c s₁ B hml hv
  obtain ⟨rfl, hsz, hP, hK, hD0, hZ⟩ := hv
  have hx := B.exec
  have hb := B.bytes
  have hr := B.returns
  have hts0 := atoms_spec (ws := (pw_ws yX10_countCycles cX10_countCycles 3 (some .int))) B.pre
  have hts : ∀ w ∈ pw_all, w.before _ s = true := fun w h => hts0 w (List.mem_cons_of_mem _ h)
  have hown : s.vm.findClass RX10 = some m.cls := findClass_of_methodNamed B.named
  have hlocks := B.notSynchronized
  subst hsz
  have hD := hD0.self (sz := s.heap.size)
  generalize hAe : va_A [(h0, .inr (15, [v0, v1, v2, v3, .ref a, .int th])), (a, .inr (4, [.int m0, w1, .int 0]))] s.heap.size = A at hD hZ ⊢
  have hA : ∀ q : Nat, s.heap.size ≤ q → A q := fun q h => by rw [← hAe]; exact Or.inr h
  have hS : va_S A s.heap s.heap [] := va_S.rf
  have hP : va_P (dC, dI) vwCl [(h0, .inr (15, [v0, v1, v2, v3, .ref a, .int th])), (a, .inr (4, [.int m0, w1, .int 0]))] s.heap := hP
  have hl := lv_entry ([.ref h0]) (n := 3) (Nat.le_of_ble_eq_true rfl)
  rw [lg_entry_eq]
  generalize (lg_sl ([.ref h0]) ++ List.replicate (3 - (lg_sl ([.ref h0])).length) Slot.unset).toArray = ls at hl ⊢
  have hl : lv_has ls 3 [(0, .ref h0)] := hl
  skip
  refine lv_aload_n hx hb dX10_countCycles_0 rfl (lv_at hl 0 rfl) ?_
  refine lv_iconst (v := 0) hx hb dX10_countCycles_1 (by decide) ?_
  refine va_put (D := (dC, dI)) (ci := 15) (v := .int 0) (ty := .int) (C := RX10) (T := TX10) (N := 6) hx hb hts inX10 tyX10 tyX10_ok nmX10 hown hK hP hD hS 0 rfl rfl 5 (by decide) (hts _ q1230) (fun _ h9 => h9) rfl (by decide +kernel) rfl rfl (Nat.le_of_ble_eq_true rfl) dX10_countCycles_2 (fun H locs hP hD hS => ?_)
  have hP : va_P (dC, dI) vwCl [(h0, .inr (15, [v0, v1, v2, v3, .ref a, .int 0])), (a, .inr (4, [.int m0, w1, .int 0]))] H := hP
  have hD : va_D A [(h0, .inr (15, [v0, v1, v2, v3, .ref a, .int 0])), (a, .inr (4, [.int m0, w1, .int 0]))] := hD
  refine va_new (ci := 4) (fs := [.int 0, .null, .int 0]) (C := RJx4a65c) (T := TJx4a65c) (N := 3) hx hb hts inJx4a65c tyJx4a65c tyJx4a65c_ok hown (hts _ q1223) (hts _ q89) (hts _ q46) hK hP hD hS hA rfl (fun j hj => by rcases (show j = 0 ∨ j = 1 ∨ j = 2 by omega) with rfl | rfl | rfl <;> rfl) (Nat.le_of_ble_eq_true rfl) (Nat.le_of_ble_eq_true rfl) dX10_countCycles_5 (fun q_410 H hP hD hS => ?_)
  have hP : va_P (dC, dI) vwCl [(h0, .inr (15, [v0, v1, v2, v3, .ref a, .int 0])), (a, .inr (4, [.int m0, w1, .int 0])), (q_410, .inr (4, [.int 0, .null, .int 0]))] H := hP
  have hD : va_D A [(h0, .inr (15, [v0, v1, v2, v3, .ref a, .int 0])), (a, .inr (4, [.int m0, w1, .int 0])), (q_410, .inr (4, [.int 0, .null, .int 0]))] := hD
  refine W.widen (k := 1) (n := 3) (Nat.le_of_ble_eq_true rfl) (Nat.le_of_ble_eq_true rfl) ?_
  refine lv_dup hx hb dX10_countCycles_8 rfl ?_
  have hPc := hP.sub (ws' := [(q_410, .inr (4, [.int 0, .null, .int 0]))]) [2] rfl
  have hDc := hD.sub (ws' := [(q_410, .inr (4, [.int 0, .null, .int 0]))]) [2] (by decide) rfl
  have hKc := hK.sub (tys' := []) [] rfl
  have hFc := va_free (wc := [(q_410, .inr (4, [.int 0, .null, .int 0]))]) hD hS hA [2] rfl
  refine va_callv (va_runI (As := []) (rest := [.ref q_410]) ⟨hx, hb, hml, hown, hts⟩ (m_listInit l dC dI H.size ed q_410 (.int 0) .null 0) (cwI 0 hts (pw_c q92) rfl rfl rfl (hts _ q46) (hts _ q1224) (hts _ q91) rfl (by decide +kernel) ⟨(Nat.le_of_ble_eq_true rfl), (Nat.le_of_ble_eq_true rfl)⟩) ⟨fun a U g mk q => by obtain ⟨q0, q1, qP, qK, qD, qZ⟩ := q; exact ⟨q0, q1, qP, va_K.moved (u := U) (U := U.calling g mk a) (Vm.Alike.refl U.vm) qK, qD, qZ.same rfl⟩, fun U hU hW => ⟨rfl, by rw [hU], by rw [hU]; exact hPc, va_K.moved hW.alike hKc, hDc.weaken (fun _ _ _ _ => trivial), hZ.call hS hFc hU hW⟩⟩ rfl rfl hl.1 rfl (lv_room (Nat.le_of_ble_eq_true rfl)) dX10_countCycles_9 ⟨(Nat.le_of_ble_eq_true rfl), (Nat.le_of_ble_eq_true rfl)⟩) hS (fun q _ h => hFc q h) hFc (fun u t H1 locs ht hvm hw hB hz1 hk1 hS => ?_)
  obtain ⟨hP1, hK1, hD1⟩ := hB
  rw [ht] at hP1
  have hK1 := va_K.moved hvm.symm hK1
  obtain ⟨hP, hD⟩ := va_join (wr := [(h0, .inr (15, [v0, v1, v2, v3, .ref a, .int 0])), (a, .inr (4, [.int m0, w1, .int 0]))]) (w1 := [(q_410, .inr (4, [.int 0, .ref ed, .int 0]))]) hP hD [2] [0, 1] rfl rfl (by decide) (by decide) hk1 hFc hP1 hD1
  have hK := (hK.sub (tys' := []) [] rfl).app hK1
  generalize H1 = H at hP hS ⊢
  have hP : va_P (dC, dI) vwCl [(h0, .inr (15, [v0, v1, v2, v3, .ref a, .int 0])), (a, .inr (4, [.int m0, w1, .int 0])), (q_410, .inr (4, [.int 0, .ref ed, .int 0]))] H := hP
  have hD : va_D A [(h0, .inr (15, [v0, v1, v2, v3, .ref a, .int 0])), (a, .inr (4, [.int m0, w1, .int 0])), (q_410, .inr (4, [.int 0, .ref ed, .int 0]))] := hD
  have hK : va_K (dC, dI) vwCl [] s := hK
  refine W.widen (k := 1) (n := 3) (Nat.le_of_ble_eq_true rfl) (Nat.le_of_ble_eq_true rfl) ?_
  refine lv_astore_n (lv' := [(1, .ref q_410), (0, .ref h0)]) hx hb dX10_countCycles_12 rfl hl (by decide) rfl (fun ls hl => ?_)
  refine lv_aload_n hx hb dX10_countCycles_13 rfl (lv_at hl 1 rfl) ?_
  refine va_get (D := (dC, dI)) (ci := 15) (v := .ref a) (C := RX10) (T := TX10) (N := 6) hx hb hts inX10 hown hK hP 0 rfl rfl 4 (by decide) (hts _ q1229) (fun _ h9 => h9) rfl dX10_countCycles_14 ?_
  refine lv_aload_n hx hb dX10_countCycles_17 rfl (lv_at hl 0 rfl) ?_
  have hPc := hP.sub (ws' := [(a, .inr (4, [.int m0, w1, .int 0]))]) [1] rfl
  have hDc := hD.sub (ws' := [(a, .inr (4, [.int m0, w1, .int 0]))]) [1] (by decide) rfl
  have hKc := hK.sub (tys' := []) [] rfl
  have hFc := va_free (wc := [(a, .inr (4, [.int m0, w1, .int 0]))]) hD hS hA [1] rfl
  refine va_callr (va_runS (As := [.ref a, .ref q_410]) (rest := []) ⟨hx, hb, hml, hown, hts⟩ (n_rains l dC dI H.size ed a q_410 m0 w1) (va_cwS 2 hts (pw_S q2014 q2015 q49 q2016) rfl rfl rfl (by decide +kernel) ⟨(Nat.le_of_ble_eq_true rfl), (Nat.le_of_ble_eq_true rfl)⟩) ⟨fun a U g mk q => by obtain ⟨q0, q1, qP, qK, qD, qZ⟩ := q; exact ⟨q0, q1, qP, va_K.moved (u := U) (U := U.calling g mk a) (Vm.Alike.refl U.vm) qK, qD, qZ.same rfl⟩, fun U hU hW => ⟨rfl, by rw [hU], by rw [hU]; exact hPc, va_K.moved hW.alike hKc, hDc.weaken (fun _ _ _ _ => trivial), hZ.call hS hFc hU hW⟩⟩ rfl rfl hl.1 rfl (lv_room (Nat.le_of_ble_eq_true rfl)) dX10_countCycles_18 ⟨(Nat.le_of_ble_eq_true rfl), (Nat.le_of_ble_eq_true rfl)⟩) hS (fun q _ h => hFc q h) hFc (fun u r_412 t H1 locs ht hvm hw hB hz1 hk1 hS => ?_)
  obtain ⟨hP1, hK1, hD1⟩ := hB
  rw [ht] at hP1
  have hK1 := va_K.moved hvm.symm hK1
  obtain ⟨hP, hD⟩ := va_join (wr := [(h0, .inr (15, [v0, v1, v2, v3, .ref a, .int 0])), (q_410, .inr (4, [.int 0, .ref ed, .int 0]))]) (w1 := [(r_412, .inr (4, [.int 0, .ref ed, .int 0])), (a, .inr (4, [.int m0, w1, .int 0]))]) hP hD [1] [0, 2] rfl rfl (by decide) (by decide) hk1 hFc hP1 hD1
  have hK := (hK.sub (tys' := []) [] rfl).app hK1
  generalize H1 = H at hP hS ⊢
  have hP : va_P (dC, dI) vwCl [(h0, .inr (15, [v0, v1, v2, v3, .ref a, .int 0])), (q_410, .inr (4, [.int 0, .ref ed, .int 0])), (r_412, .inr (4, [.int 0, .ref ed, .int 0])), (a, .inr (4, [.int m0, w1, .int 0]))] H := hP
  have hD : va_D A [(h0, .inr (15, [v0, v1, v2, v3, .ref a, .int 0])), (q_410, .inr (4, [.int 0, .ref ed, .int 0])), (r_412, .inr (4, [.int 0, .ref ed, .int 0])), (a, .inr (4, [.int m0, w1, .int 0]))] := hD
  have hK : va_K (dC, dI) vwCl [] s := hK
  refine W.widen (k := 5) (n := 17) (Nat.le_of_ble_eq_true rfl) (Nat.le_of_ble_eq_true rfl) ?_
  refine lv_astore_n (lv' := [(2, .ref r_412), (1, .ref q_410), (0, .ref h0)]) hx hb dX10_countCycles_21 rfl hl (by decide) rfl (fun ls hl => ?_)
  refine lv_aload_n hx hb dX10_countCycles_22 rfl (lv_at hl 0 rfl) ?_
  have hPc := hP.sub (ws' := [(r_412, .inr (4, [.int 0, .ref ed, .int 0]))]) [2] rfl
  have hDc := hD.sub (ws' := [(r_412, .inr (4, [.int 0, .ref ed, .int 0]))]) [2] (by decide) rfl
  have hKc := hK.sub (tys' := []) [] rfl
  have hFc := va_free (wc := [(r_412, .inr (4, [.int 0, .ref ed, .int 0]))]) hD hS hA [2] rfl
  refine va_calli (va_runV (As := []) (rest := []) ⟨hx, hb, hml, hown, hts⟩ (m_isEmpty l dC dI H.size r_412 (.int 0) (.ref ed)) (cwV 0 hts (pw_V q1389 q1390 q1391 q46 q1392) rfl rfl rfl (by decide +kernel) ⟨(Nat.le_of_ble_eq_true rfl), (Nat.le_of_ble_eq_true rfl)⟩) ⟨fun a U g mk q => by obtain ⟨q0, q1, qP, qK, qD⟩ := q; exact ⟨q0, q1, qP, va_K.moved (u := U) (U := U.calling g mk a) (Vm.Alike.refl U.vm) qK, qD⟩, va_recv hKc hPc (ci := 4) (q0 := 0) rfl rfl, fun U hU hW => ⟨rfl, by rw [hU], by rw [hU]; exact hPc, va_K.moved hW.alike hKc, hDc.weaken (fun _ _ _ _ => trivial)⟩⟩ rfl rfl hl.1 rfl (lv_room (Nat.le_of_ble_eq_true rfl)) dX10_countCycles_23 ⟨(Nat.le_of_ble_eq_true rfl), (Nat.le_of_ble_eq_true rfl)⟩) hS (fun q _ h => hFc q h) hFc (fun r_413 u t H1 locs ht hvm hw hB hz1 hk1 hS => ?_)
  obtain ⟨hP1, hK1, hD1⟩ := hB
  rw [ht] at hP1
  have hK1 := va_K.moved hvm.symm hK1
  obtain ⟨hP, hD⟩ := va_join (wr := [(h0, .inr (15, [v0, v1, v2, v3, .ref a, .int 0])), (q_410, .inr (4, [.int 0, .ref ed, .int 0])), (a, .inr (4, [.int m0, w1, .int 0]))]) (w1 := [(r_412, .inr (4, [.int 0, .ref ed, .int 0]))]) hP hD [2] [0, 1, 3] rfl rfl (by decide) (by decide) hk1 hFc hP1 hD1
  have hK := (hK.sub (tys' := []) [] rfl).app hK1
  generalize H1 = H at hP hS ⊢
  have hP : va_P (dC, dI) vwCl [(h0, .inr (15, [v0, v1, v2, v3, .ref a, .int 0])), (q_410, .inr (4, [.int 0, .ref ed, .int 0])), (a, .inr (4, [.int m0, w1, .int 0])), (r_412, .inr (4, [.int 0, .ref ed, .int 0]))] H := hP
  have hD : va_D A [(h0, .inr (15, [v0, v1, v2, v3, .ref a, .int 0])), (q_410, .inr (4, [.int 0, .ref ed, .int 0])), (a, .inr (4, [.int m0, w1, .int 0])), (r_412, .inr (4, [.int 0, .ref ed, .int 0]))] := hD
  have hK : va_K (dC, dI) vwCl [] s := hK
  refine W.widen (k := 5) (n := 17) (Nat.le_of_ble_eq_true rfl) (Nat.le_of_ble_eq_true rfl) ?_
  have hw : r_413 = 1 := hw
  subst hw
  refine lv_if_eq (tgt := 33) hx hb dX10_countCycles_26 (by decide) (fun c_414 => absurd c_414 (by decide)) (fun c_414 => ?_)
  refine lv_iconst (v := 0) hx hb dX10_countCycles_29 (by decide) ?_
  refine lv_goto (tgt := 37) hx hb dX10_countCycles_30 (by decide) ?_
  have hP9 := hP.sub (ws' := [(h0, .inr (15, [v0, v1, v2, v3, .ref a, .int 0])), (a, .inr (4, [.int m0, w1, .int 0]))]) [0, 2] rfl
  have hD9 := hD.sub (ws' := [(h0, .inr (15, [v0, v1, v2, v3, .ref a, .int 0])), (a, .inr (4, [.int m0, w1, .int 0]))]) [0, 2] (by decide) rfl
  have hK9 := hK.sub (tys' := []) [] rfl
  refine W.widen (k := 5) (n := 17) (Nat.le_of_ble_eq_true rfl) (Nat.le_of_ble_eq_true rfl) ?_
  exact W.iret (v := 0) hx hb hr (fun t ht hW => ⟨⟨0, (), rfl, rfl, ⟨by rw [ht]; exact hP9, va_K.moved hW.alike hK9, hD9⟩⟩, hS.F ht⟩) hS.2.2 dX10_countCycles_37
set_option maxHeartbeats 4000000 in
set_option maxRecDepth 100000 in
theorem n_damage (l : Launch) (dC : Nat → ClassId) (dI : Nat → Nat → Nat) (sz : Nat) (ed : Nat) (a : Nat) (m0 : Int32) (w1 : Value) : Met l yX10_damage (pw_ws yX10_damage cX10_damage 9 (some .long)) ({ frames := 6, cells := 6, slots := 21, locals := 130 } : Room) (va_Pc [.ref a] (fun U => U.heap.size = sz ∧ va_P (dC, dI) vwCl [(a, .inr (4, [.int m0, w1, .int 0]))] U.heap ∧ va_K (dC, dI) vwCl [] U ∧ va_D (fun _ => True) [(a, .inr (4, [.int m0, w1, .int 0]))] ∧ pz ed (va_A [(a, .inr (4, [.int m0, w1, .int 0]))] sz) U U.heap)) (va_Ql (fun (r : Int64) (_ : Unit) => r = 0) (fun (_ : Unit) (t : State) => va_P (dC, dI) vwCl [(a, .inr (4, [.int m0, w1, .int 0]))] t.heap ∧ va_K (dC, dI) vwCl [] t ∧ va_D (va_A [(a, .inr (4, [.int m0, w1, .int 0]))] sz) [(a, .inr (4, [.int m0, w1, .int 0]))]) (va_A [(a, .inr (4, [.int m0, w1, .int 0]))] sz)) 6 21 (va_A [(a, .inr (4, [.int m0, w1, .int 0]))] sz) := by
  refine Met.ofW (cc := cX10_damage) (maxL := 9) (ret := (some .long)) (by decide) rfl ?_
  intro p e s m args below meth c s₁ B hml hv
  obtain ⟨rfl, hsz, hP, hK, hD0, hZ⟩ := hv
  have hx := B.exec
  have hb := B.bytes
  have hr := B.returns
  have hts0 := atoms_spec (ws := (pw_ws yX10_damage cX10_damage 9 (some .long))) B.pre
  have hts : ∀ w ∈ pw_all, w.before _ s = true := fun w h => hts0 w (List.mem_cons_of_mem _ h)
  have hown : s.vm.findClass RX10 = some m.cls := findClass_of_methodNamed B.named
  have hlocks := B.notSynchronized
  subst hsz
  have hD := hD0.self (sz := s.heap.size)
  generalize hAe : va_A [(a, .inr (4, [.int m0, w1, .int 0]))] s.heap.size = A at hD hZ ⊢
  have hA : ∀ q : Nat, s.heap.size ≤ q → A q := fun q h => by rw [← hAe]; exact Or.inr h
  have hS : va_S A s.heap s.heap [] := va_S.rf
  have hP : va_P (dC, dI) vwCl [(a, .inr (4, [.int m0, w1, .int 0]))] s.heap := hP
  have hl := lv_entry ([.ref a]) (n := 9) (Nat.le_of_ble_eq_true rfl)
  rw [lg_entry_eq]
  generalize (lg_sl ([.ref a]) ++ List.replicate (9 - (lg_sl ([.ref a])).length) Slot.unset).toArray = ls at hl ⊢
  have hl : lv_has ls 9 [(0, .ref a)] := hl
  skip
  refine va_new (ci := 4) (fs := [.int 0, .null, .int 0]) (C := RJx4a65c) (T := TJx4a65c) (N := 3) hx hb hts inJx4a65c tyJx4a65c tyJx4a65c_ok hown (hts _ q1223) (hts _ q89) (hts _ q46) hK hP hD hS hA rfl (fun j hj => by rcases (show j = 0 ∨ j = 1 ∨ j = 2 by omega) with rfl | rfl | rfl <;> rfl) (Nat.le_of_ble_eq_true rfl) (Nat.le_of_ble_eq_true rfl) dX10_damage_0 (fun q_415 H hP hD hS => ?_)
  have hP : va_P (dC, dI) vwCl [(a, .inr (4, [.int m0, w1, .int 0])), (q_415, .inr (4, [.int 0, .null, .int 0]))] H := hP
  have hD : va_D A [(a, .inr (4, [.int m0, w1, .int 0])), (q_415, .inr (4, [.int 0, .null, .int 0]))] := hD
  refine W.widen (k := 1) (n := 3) (Nat.le_of_ble_eq_true rfl) (Nat.le_of_ble_eq_true rfl) ?_
  refine lv_dup hx hb dX10_damage_3 rfl ?_
  have hPc := hP.sub (ws' := [(q_415, .inr (4, [.int 0, .null, .int 0]))]) [1] rfl
  have hDc := hD.sub (ws' := [(q_415, .inr (4, [.int 0, .null, .int 0]))]) [1] (by decide) rfl
  have hKc := hK.sub (tys' := []) [] rfl
  have hFc := va_free (wc := [(q_415, .inr (4, [.int 0, .null, .int 0]))]) hD hS hA [1] rfl
  refine va_callv (va_runI (As := []) (rest := [.ref q_415]) ⟨hx, hb, hml, hown, hts⟩ (m_listInit l dC dI H.size ed q_415 (.int 0) .null 0) (cwI 0 hts (pw_c q92) rfl rfl rfl (hts _ q46) (hts _ q1224) (hts _ q91) rfl (by decide +kernel) ⟨(Nat.le_of_ble_eq_true rfl), (Nat.le_of_ble_eq_true rfl)⟩) ⟨fun a U g mk q => by obtain ⟨q0, q1, qP, qK, qD, qZ⟩ := q; exact ⟨q0, q1, qP, va_K.moved (u := U) (U := U.calling g mk a) (Vm.Alike.refl U.vm) qK, qD, qZ.same rfl⟩, fun U hU hW => ⟨rfl, by rw [hU], by rw [hU]; exact hPc, va_K.moved hW.alike hKc, hDc.weaken (fun _ _ _ _ => trivial), hZ.call hS hFc hU hW⟩⟩ rfl rfl hl.1 rfl (lv_room (Nat.le_of_ble_eq_true rfl)) dX10_damage_4 ⟨(Nat.le_of_ble_eq_true rfl), (Nat.le_of_ble_eq_true rfl)⟩) hS (fun q _ h => hFc q h) hFc (fun u t H1 locs ht hvm hw hB hz1 hk1 hS => ?_)
  obtain ⟨hP1, hK1, hD1⟩ := hB
  rw [ht] at hP1
  have hK1 := va_K.moved hvm.symm hK1
  obtain ⟨hP, hD⟩ := va_join (wr := [(a, .inr (4, [.int m0, w1, .int 0]))]) (w1 := [(q_415, .inr (4, [.int 0, .ref ed, .int 0]))]) hP hD [1] [0] rfl rfl (by decide) (by decide) hk1 hFc hP1 hD1
  have hK := (hK.sub (tys' := []) [] rfl).app hK1
  generalize H1 = H at hP hS ⊢
  have hP : va_P (dC, dI) vwCl [(a, .inr (4, [.int m0, w1, .int 0])), (q_415, .inr (4, [.int 0, .ref ed, .int 0]))] H := hP
  have hD : va_D A [(a, .inr (4, [.int m0, w1, .int 0])), (q_415, .inr (4, [.int 0, .ref ed, .int 0]))] := hD
  have hK : va_K (dC, dI) vwCl [] s := hK
  refine W.widen (k := 1) (n := 3) (Nat.le_of_ble_eq_true rfl) (Nat.le_of_ble_eq_true rfl) ?_
  refine lv_astore_n (lv' := [(1, .ref q_415), (0, .ref a)]) hx hb dX10_damage_7 rfl hl (by decide) rfl (fun ls hl => ?_)
  refine lv_aload_n hx hb dX10_damage_8 rfl (lv_at hl 1 rfl) ?_
  refine lv_aload_n hx hb dX10_damage_9 rfl (lv_at hl 0 rfl) ?_
  have hPc := hP.sub (ws' := [(a, .inr (4, [.int m0, w1, .int 0]))]) [0] rfl
  have hDc := hD.sub (ws' := [(a, .inr (4, [.int m0, w1, .int 0]))]) [0] (by decide) rfl
  have hKc := hK.sub (tys' := []) [] rfl
  have hFc := va_free (wc := [(a, .inr (4, [.int m0, w1, .int 0]))]) hD hS hA [0] rfl
  refine va_callr (va_runS (As := [.ref a, .ref q_415]) (rest := []) ⟨hx, hb, hml, hown, hts⟩ (n_rains l dC dI H.size ed a q_415 m0 w1) (va_cwS 2 hts (pw_S q2014 q2015 q49 q2016) rfl rfl rfl (by decide +kernel) ⟨(Nat.le_of_ble_eq_true rfl), (Nat.le_of_ble_eq_true rfl)⟩) ⟨fun a U g mk q => by obtain ⟨q0, q1, qP, qK, qD, qZ⟩ := q; exact ⟨q0, q1, qP, va_K.moved (u := U) (U := U.calling g mk a) (Vm.Alike.refl U.vm) qK, qD, qZ.same rfl⟩, fun U hU hW => ⟨rfl, by rw [hU], by rw [hU]; exact hPc, va_K.moved hW.alike hKc, hDc.weaken (fun _ _ _ _ => trivial), hZ.call hS hFc hU hW⟩⟩ rfl rfl hl.1 rfl (lv_room (Nat.le_of_ble_eq_true rfl)) dX10_damage_10 ⟨(Nat.le_of_ble_eq_true rfl), (Nat.le_of_ble_eq_true rfl)⟩) hS (fun q _ h => hFc q h) hFc (fun u r_417 t H1 locs ht hvm hw hB hz1 hk1 hS => ?_)
  obtain ⟨hP1, hK1, hD1⟩ := hB
  rw [ht] at hP1
  have hK1 := va_K.moved hvm.symm hK1
  obtain ⟨hP, hD⟩ := va_join (wr := [(q_415, .inr (4, [.int 0, .ref ed, .int 0]))]) (w1 := [(r_417, .inr (4, [.int 0, .ref ed, .int 0])), (a, .inr (4, [.int m0, w1, .int 0]))]) hP hD [0] [1] rfl rfl (by decide) (by decide) hk1 hFc hP1 hD1
  have hK := (hK.sub (tys' := []) [] rfl).app hK1
  generalize H1 = H at hP hS ⊢
  have hP : va_P (dC, dI) vwCl [(q_415, .inr (4, [.int 0, .ref ed, .int 0])), (r_417, .inr (4, [.int 0, .ref ed, .int 0])), (a, .inr (4, [.int m0, w1, .int 0]))] H := hP
  have hD : va_D A [(q_415, .inr (4, [.int 0, .ref ed, .int 0])), (r_417, .inr (4, [.int 0, .ref ed, .int 0])), (a, .inr (4, [.int m0, w1, .int 0]))] := hD
  have hK : va_K (dC, dI) vwCl [] s := hK
  refine W.widen (k := 5) (n := 17) (Nat.le_of_ble_eq_true rfl) (Nat.le_of_ble_eq_true rfl) ?_
  refine lv_astore_n (lv' := [(2, .ref r_417), (1, .ref q_415), (0, .ref a)]) hx hb dX10_damage_13 rfl hl (by decide) rfl (fun ls hl => ?_)
  refine lv_lconst (v := 0) hx hb dX10_damage_14 (by decide) ?_
  refine lv_lstore_n (lv' := [(3, .long 0), (2, .ref r_417), (1, .ref q_415), (0, .ref a)]) hx hb dX10_damage_15 rfl hl (by decide) rfl (fun ls hl => ?_)
  refine lv_lconst (v := 0) hx hb dX10_damage_16 (by decide) ?_
  refine lv_lstore (lv' := [(5, .long 0), (3, .long 0), (2, .ref r_417), (1, .ref q_415), (0, .ref a)]) hx hb dX10_damage_17 hl (by decide) rfl (fun ls hl => ?_)
  refine lv_aload_n hx hb dX10_damage_19 rfl (lv_at hl 3 rfl) ?_
  have hPc := hP.sub (ws' := [(q_415, .inr (4, [.int 0, .ref ed, .int 0]))]) [0] rfl
  have hDc := hD.sub (ws' := [(q_415, .inr (4, [.int 0, .ref ed, .int 0]))]) [0] (by decide) rfl
  have hKc := hK.sub (tys' := []) [] rfl
  have hFc := va_free (wc := [(q_415, .inr (4, [.int 0, .ref ed, .int 0]))]) hD hS hA [0] rfl
  refine va_callr (va_runV (As := []) (rest := []) ⟨hx, hb, hml, hown, hts⟩ (m_iterator l dC dI H.size q_415 0 (.ref ed) (.int 0)) (cwV 0 hts (pw_V q1522 q1523 q1524 q46 q1525) rfl rfl rfl (by decide +kernel) ⟨(Nat.le_of_ble_eq_true rfl), (Nat.le_of_ble_eq_true rfl)⟩) ⟨fun a U g mk q => by obtain ⟨q0, q1, qP, qK, qD⟩ := q; exact ⟨q0, q1, qP, va_K.moved (u := U) (U := U.calling g mk a) (Vm.Alike.refl U.vm) qK, qD⟩, va_recv hKc hPc (ci := 4) (q0 := 0) rfl rfl, fun U hU hW => ⟨rfl, by rw [hU], by rw [hU]; exact hPc, va_K.moved hW.alike hKc, hDc.weaken (fun _ _ _ _ => trivial)⟩⟩ rfl rfl hl.1 rfl (lv_room (Nat.le_of_ble_eq_true rfl)) dX10_damage_20 ⟨(Nat.le_of_ble_eq_true rfl), (Nat.le_of_ble_eq_true rfl)⟩) hS (fun q _ h => hFc q h) hFc (fun u r_418 t H1 locs ht hvm hw hB hz1 hk1 hS => ?_)
  obtain ⟨hP1, hK1, hD1⟩ := hB
  rw [ht] at hP1
  have hK1 := va_K.moved hvm.symm hK1
  obtain ⟨hP, hD⟩ := va_join (wr := [(r_417, .inr (4, [.int 0, .ref ed, .int 0])), (a, .inr (4, [.int m0, w1, .int 0]))]) (w1 := [(r_418, .inr (3, [.int 0, .int (-1), .int 0, .ref q_415])), (q_415, .inr (4, [.int 0, .ref ed, .int 0]))]) hP hD [0] [1, 2] rfl rfl (by decide) (by decide) hk1 hFc hP1 hD1
  have hK := (hK.sub (tys' := []) [] rfl).app hK1
  generalize H1 = H at hP hS ⊢
  have hP : va_P (dC, dI) vwCl [(r_417, .inr (4, [.int 0, .ref ed, .int 0])), (a, .inr (4, [.int m0, w1, .int 0])), (r_418, .inr (3, [.int 0, .int (-1), .int 0, .ref q_415])), (q_415, .inr (4, [.int 0, .ref ed, .int 0]))] H := hP
  have hD : va_D A [(r_417, .inr (4, [.int 0, .ref ed, .int 0])), (a, .inr (4, [.int m0, w1, .int 0])), (r_418, .inr (3, [.int 0, .int (-1), .int 0, .ref q_415])), (q_415, .inr (4, [.int 0, .ref ed, .int 0]))] := hD
  have hK : va_K (dC, dI) vwCl [] s := hK
  refine W.widen (k := 6) (n := 21) (Nat.le_of_ble_eq_true rfl) (Nat.le_of_ble_eq_true rfl) ?_
  refine lv_astore (lv' := [(7, .ref r_418), (5, .long 0), (3, .long 0), (2, .ref r_417), (1, .ref q_415), (0, .ref a)]) hx hb dX10_damage_23 hl (by decide) rfl (fun ls hl => ?_)
  refine lv_aload hx hb dX10_damage_25 (lv_at hl 0 rfl) ?_
  have hPc := hP.sub (ws' := [(r_418, .inr (3, [.int 0, .int (-1), .int 0, .ref q_415])), (q_415, .inr (4, [.int 0, .ref ed, .int 0]))]) [2, 3] rfl
  have hDc := hD.sub (ws' := [(r_418, .inr (3, [.int 0, .int (-1), .int 0, .ref q_415])), (q_415, .inr (4, [.int 0, .ref ed, .int 0]))]) [2, 3] (by decide) rfl
  have hKc := hK.sub (tys' := []) [] rfl
  have hFc := va_free (wc := [(r_418, .inr (3, [.int 0, .int (-1), .int 0, .ref q_415])), (q_415, .inr (4, [.int 0, .ref ed, .int 0]))]) hD hS hA [2, 3] rfl
  refine va_callFi (va_runF (As := []) (rest := []) (hKc.1 3 _ rfl).2 ⟨hx, hb, hml, hown, hts⟩ (m_hasNext l dC dI H.size ed r_418 q_415 (.int (-1)) (.int 0) (.int 0) (.ref ed)) (va_cwF 0 hts (pw_F q1546 q1550 q1552 q70 q1554) rfl rfl rfl hZ.iter (by decide +kernel) ⟨(Nat.le_of_ble_eq_true rfl), (Nat.le_of_ble_eq_true rfl)⟩) ⟨fun a U g mk q => by obtain ⟨q0, q1, qP, qK, qD, qZ⟩ := q; exact ⟨q0, q1, qP, va_K.moved (u := U) (U := U.calling g mk a) (Vm.Alike.refl U.vm) qK, qD, qZ.same rfl⟩, va_recv hKc hPc (ci := 3) (q0 := 0) rfl rfl, fun U hU hW => ⟨rfl, by rw [hU], by rw [hU]; exact hPc, va_K.moved hW.alike hKc, hDc.weaken (fun _ _ _ _ => trivial), hZ.call hS hFc hU hW⟩⟩ rfl rfl hl.1 rfl (lv_room (Nat.le_of_ble_eq_true rfl)) dX10_damage_27 ⟨(Nat.le_of_ble_eq_true rfl), (Nat.le_of_ble_eq_true rfl)⟩) hS (fun q _ h => hFc q h) hFc (fun r_419 u t H1 locs ht hvm hw hB hz1 hk1 hS => ?_)
  obtain ⟨hP1, hK1, hD1⟩ := hB
  rw [ht] at hP1
  have hK1 := va_K.moved hvm.symm hK1
  obtain ⟨hP, hD⟩ := va_join (wr := [(r_417, .inr (4, [.int 0, .ref ed, .int 0])), (a, .inr (4, [.int m0, w1, .int 0]))]) (w1 := [(r_418, .inr (3, [.int 0, .int (-1), .int 0, .ref q_415])), (q_415, .inr (4, [.int 0, .ref ed, .int 0]))]) hP hD [2, 3] [0, 1] rfl rfl (by decide) (by decide) hk1 hFc hP1 hD1
  have hK := (hK.sub (tys' := []) [] rfl).app hK1
  generalize H1 = H at hP hS ⊢
  have hP : va_P (dC, dI) vwCl [(r_417, .inr (4, [.int 0, .ref ed, .int 0])), (a, .inr (4, [.int m0, w1, .int 0])), (r_418, .inr (3, [.int 0, .int (-1), .int 0, .ref q_415])), (q_415, .inr (4, [.int 0, .ref ed, .int 0]))] H := hP
  have hD : va_D A [(r_417, .inr (4, [.int 0, .ref ed, .int 0])), (a, .inr (4, [.int m0, w1, .int 0])), (r_418, .inr (3, [.int 0, .int (-1), .int 0, .ref q_415])), (q_415, .inr (4, [.int 0, .ref ed, .int 0]))] := hD
  have hK : va_K (dC, dI) vwCl [] s := hK
  refine W.widen (k := 6) (n := 21) (Nat.le_of_ble_eq_true rfl) (Nat.le_of_ble_eq_true rfl) ?_
  have hw : r_419 = 0 := hw
  subst hw
  refine lv_if_eq (tgt := 61) hx hb dX10_damage_32 (by decide) (fun c_420 => ?_) (fun c_420 => absurd (by decide) c_420)
  refine lv_iconst (v := 1) hx hb dX10_damage_61 (by decide) ?_
  refine lv_istore (lv' := [(7, .int 1), (5, .long 0), (3, .long 0), (2, .ref r_417), (1, .ref q_415), (0, .ref a)]) hx hb dX10_damage_62 hl (by decide) rfl (fun ls hl => ?_)
  refine lv_iload hx hb dX10_damage_64 (lv_at hl 0 rfl) ?_
  refine lv_aload_n hx hb dX10_damage_66 rfl (lv_at hl 3 rfl) ?_
  have hPc := hP.sub (ws' := [(r_417, .inr (4, [.int 0, .ref ed, .int 0]))]) [0] rfl
  have hDc := hD.sub (ws' := [(r_417, .inr (4, [.int 0, .ref ed, .int 0]))]) [0] (by decide) rfl
  have hKc := hK.sub (tys' := []) [] rfl
  have hFc := va_free (wc := [(r_417, .inr (4, [.int 0, .ref ed, .int 0]))]) hD hS hA [0] rfl
  refine va_calli (va_runV (As := []) (rest := [.int 1]) ⟨hx, hb, hml, hown, hts⟩ (m_size l dC dI H.size r_417 (.int 0) (.ref ed) 0) (cwV 0 hts (pw_V q1252 q274 q275 q46 q276) rfl rfl rfl (by decide +kernel) ⟨(Nat.le_of_ble_eq_true rfl), (Nat.le_of_ble_eq_true rfl)⟩) ⟨fun a U g mk q => by obtain ⟨q0, q1, qP, qK, qD⟩ := q; exact ⟨q0, q1, qP, va_K.moved (u := U) (U := U.calling g mk a) (Vm.Alike.refl U.vm) qK, qD⟩, va_recv hKc hPc (ci := 4) (q0 := 0) rfl rfl, fun U hU hW => ⟨rfl, by rw [hU], by rw [hU]; exact hPc, va_K.moved hW.alike hKc, hDc.weaken (fun _ _ _ _ => trivial)⟩⟩ rfl rfl hl.1 rfl (lv_room (Nat.le_of_ble_eq_true rfl)) dX10_damage_67 ⟨(Nat.le_of_ble_eq_true rfl), (Nat.le_of_ble_eq_true rfl)⟩) hS (fun q _ h => hFc q h) hFc (fun r_421 u t H1 locs ht hvm hw hB hz1 hk1 hS => ?_)
  obtain ⟨hP1, hK1, hD1⟩ := hB
  rw [ht] at hP1
  have hK1 := va_K.moved hvm.symm hK1
  obtain ⟨hP, hD⟩ := va_join (wr := [(a, .inr (4, [.int m0, w1, .int 0])), (r_418, .inr (3, [.int 0, .int (-1), .int 0, .ref q_415])), (q_415, .inr (4, [.int 0, .ref ed, .int 0]))]) (w1 := [(r_417, .inr (4, [.int 0, .ref ed, .int 0]))]) hP hD [0] [1, 2, 3] rfl rfl (by decide) (by decide) hk1 hFc hP1 hD1
  have hK := (hK.sub (tys' := []) [] rfl).app hK1
  generalize H1 = H at hP hS ⊢
  have hP : va_P (dC, dI) vwCl [(a, .inr (4, [.int m0, w1, .int 0])), (r_418, .inr (3, [.int 0, .int (-1), .int 0, .ref q_415])), (q_415, .inr (4, [.int 0, .ref ed, .int 0])), (r_417, .inr (4, [.int 0, .ref ed, .int 0]))] H := hP
  have hD : va_D A [(a, .inr (4, [.int m0, w1, .int 0])), (r_418, .inr (3, [.int 0, .int (-1), .int 0, .ref q_415])), (q_415, .inr (4, [.int 0, .ref ed, .int 0])), (r_417, .inr (4, [.int 0, .ref ed, .int 0]))] := hD
  have hK : va_K (dC, dI) vwCl [] s := hK
  refine W.widen (k := 6) (n := 21) (Nat.le_of_ble_eq_true rfl) (Nat.le_of_ble_eq_true rfl) ?_
  have hw : r_421 = 0 := hw
  subst hw
  refine lv_icmp_ge (tgt := 93) hx hb dX10_damage_70 (by decide) (fun c_422 => ?_) (fun c_422 => absurd (by decide) c_422)
  refine lv_lload_n hx hb dX10_damage_93 rfl (lv_at hl 2 rfl) ?_
  refine lv_lload hx hb dX10_damage_94 (lv_at hl 1 rfl) ?_
  refine lv_ldc2 (v := 2) hx hb hown (hts _ q2040) dX10_damage_96 ?_
  refine lv_ldiv hx hb dX10_damage_99 (by decide) ?_
  refine lv_numL (v := 0) (by decide) ?_
  refine lv_ladd hx hb dX10_damage_100 ?_
  refine lv_numL (v := 0) (by decide) ?_
  have hP9 := hP.sub (ws' := [(a, .inr (4, [.int m0, w1, .int 0]))]) [0] rfl
  have hD9 := hD.sub (ws' := [(a, .inr (4, [.int m0, w1, .int 0]))]) [0] (by decide) rfl
  have hK9 := hK.sub (tys' := []) [] rfl
  refine W.widen (k := 6) (n := 21) (Nat.le_of_ble_eq_true rfl) (Nat.le_of_ble_eq_true rfl) ?_
  exact W.lret (v := 0) hx hb hr (fun t ht hW => ⟨⟨0, (), rfl, rfl, ⟨by rw [ht]; exact hP9, va_K.moved hW.alike hK9, hD9⟩⟩, hS.F ht⟩) hS.2.2 dX10_damage_101
set_option maxHeartbeats 4000000 in
set_option maxRecDepth 100000 in
theorem z_damageOfRow (l : Launch) (dC : Nat → ClassId) (dI : Nat → Nat → Nat) (sz : Nat) (ed : Nat) (h0 : Nat) (a : Nat) (v0 : Value) (v1 : Value) (v2 : Value) (v3 : Value) (th : Int32) (m0 : Int32) (w1 : Value) : Met l yX10_damageOfRow (pw_ws yX10_damageOfRow cX10_damageOfRow 1 (some .long)) ({ frames := 7, cells := 6, slots := 21, locals := 158 } : Room) (va_Pc [.ref h0] (fun U => U.heap.size = sz ∧ va_P (dC, dI) vwCl [(h0, .inr (15, [v0, v1, v2, v3, .ref a, .int th])), (a, .inr (4, [.int m0, w1, .int 0]))] U.heap ∧ va_K (dC, dI) vwCl [] U ∧ va_D (fun _ => True) [(h0, .inr (15, [v0, v1, v2, v3, .ref a, .int th])), (a, .inr (4, [.int m0, w1, .int 0]))] ∧ pz ed (va_A [(h0, .inr (15, [v0, v1, v2, v3, .ref a, .int th])), (a, .inr (4, [.int m0, w1, .int 0]))] sz) U U.heap)) (va_Ql (fun (r : Int64) (_ : Unit) => r = 0) (fun (_ : Unit) (t : State) => va_P (dC, dI) vwCl [(h0, .inr (15, [v0, v1, v2, v3, .ref a, .int 0])), (a, .inr (4, [.int m0, w1, .int 0]))] t.heap ∧ va_K (dC, dI) vwCl [] t ∧ va_D (va_A [(h0, .inr (15, [v0, v1, v2, v3, .ref a, .int th])), (a, .inr (4, [.int m0, w1, .int 0]))] sz) [(h0, .inr (15, [v0, v1, v2, v3, .ref a, .int 0])), (a, .inr (4, [.int m0, w1, .int 0]))]) (va_A [(h0, .inr (15, [v0, v1, v2, v3, .ref a, .int th])), (a, .inr (4, [.int m0, w1, .int 0]))] sz)) 6 21 (va_A [(h0, .inr (15, [v0, v1, v2, v3, .ref a, .int th])), (a, .inr (4, [.int m0, w1, .int 0]))] sz) := by
  refine Met.ofW (cc := cX10_damageOfRow) (maxL := 1) (ret := (some .long)) (by decide) rfl ?_
  intro p e s m args below meth c s₁ B hml hv
  obtain ⟨rfl, hsz, hP, hK, hD0, hZ⟩ := hv
  have hx := B.exec
  have hb := B.bytes
  have hr := B.returns
  have hts0 := atoms_spec (ws := (pw_ws yX10_damageOfRow cX10_damageOfRow 1 (some .long))) B.pre
  have hts : ∀ w ∈ pw_all, w.before _ s = true := fun w h => hts0 w (List.mem_cons_of_mem _ h)
  have hown : s.vm.findClass RX10 = some m.cls := findClass_of_methodNamed B.named
  have hlocks := B.notSynchronized
  subst hsz
  have hD := hD0.self (sz := s.heap.size)
  generalize hAe : va_A [(h0, .inr (15, [v0, v1, v2, v3, .ref a, .int th])), (a, .inr (4, [.int m0, w1, .int 0]))] s.heap.size = A at hD hZ ⊢
  have hA : ∀ q : Nat, s.heap.size ≤ q → A q := fun q h => by rw [← hAe]; exact Or.inr h
  have hS : va_S A s.heap s.heap [] := va_S.rf
  have hP : va_P (dC, dI) vwCl [(h0, .inr (15, [v0, v1, v2, v3, .ref a, .int th])), (a, .inr (4, [.int m0, w1, .int 0]))] s.heap := hP
  have hl := lv_entry ([.ref h0]) (n := 1) (Nat.le_of_ble_eq_true rfl)
  rw [lg_entry_eq]
  generalize (lg_sl ([.ref h0]) ++ List.replicate (1 - (lg_sl ([.ref h0])).length) Slot.unset).toArray = ls at hl ⊢
  have hl : lv_has ls 1 [(0, .ref h0)] := hl
  skip
  refine lv_aload_n hx hb dX10_damageOfRow_0 rfl (lv_at hl 0 rfl) ?_
  refine lv_iconst (v := 0) hx hb dX10_damageOfRow_1 (by decide) ?_
  refine va_put (D := (dC, dI)) (ci := 15) (v := .int 0) (ty := .int) (C := RX10) (T := TX10) (N := 6) hx hb hts inX10 tyX10 tyX10_ok nmX10 hown hK hP hD hS 0 rfl rfl 5 (by decide) (hts _ q1230) (fun _ h9 => h9) rfl (by decide +kernel) rfl rfl (Nat.le_of_ble_eq_true rfl) dX10_damageOfRow_2 (fun H locs hP hD hS => ?_)
  have hP : va_P (dC, dI) vwCl [(h0, .inr (15, [v0, v1, v2, v3, .ref a, .int 0])), (a, .inr (4, [.int m0, w1, .int 0]))] H := hP
  have hD : va_D A [(h0, .inr (15, [v0, v1, v2, v3, .ref a, .int 0])), (a, .inr (4, [.int m0, w1, .int 0]))] := hD
  refine lv_aload_n hx hb dX10_damageOfRow_5 rfl (lv_at hl 0 rfl) ?_
  refine va_get (D := (dC, dI)) (ci := 15) (v := .ref a) (C := RX10) (T := TX10) (N := 6) hx hb hts inX10 hown hK hP 0 rfl rfl 4 (by decide) (hts _ q1229) (fun _ h9 => h9) rfl dX10_damageOfRow_6 ?_
  have hPc := hP.sub (ws' := [(a, .inr (4, [.int m0, w1, .int 0]))]) [1] rfl
  have hDc := hD.sub (ws' := [(a, .inr (4, [.int m0, w1, .int 0]))]) [1] (by decide) rfl
  have hKc := hK.sub (tys' := []) [] rfl
  have hFc := va_free (wc := [(a, .inr (4, [.int m0, w1, .int 0]))]) hD hS hA [1] rfl
  refine va_calll (va_runS (As := [.ref a]) (rest := []) ⟨hx, hb, hml, hown, hts⟩ (n_damage l dC dI H.size ed a m0 w1) (va_cwS 1 hts (pw_S q2011 q2012 q49 q2013) rfl rfl rfl (by decide +kernel) ⟨(Nat.le_of_ble_eq_true rfl), (Nat.le_of_ble_eq_true rfl)⟩) ⟨fun a U g mk q => by obtain ⟨q0, q1, qP, qK, qD, qZ⟩ := q; exact ⟨q0, q1, qP, va_K.moved (u := U) (U := U.calling g mk a) (Vm.Alike.refl U.vm) qK, qD, qZ.same rfl⟩, fun U hU hW => ⟨rfl, by rw [hU], by rw [hU]; exact hPc, va_K.moved hW.alike hKc, hDc.weaken (fun _ _ _ _ => trivial), hZ.call hS hFc hU hW⟩⟩ rfl rfl hl.1 rfl (lv_room (Nat.le_of_ble_eq_true rfl)) dX10_damageOfRow_9 ⟨(Nat.le_of_ble_eq_true rfl), (Nat.le_of_ble_eq_true rfl)⟩) hS (fun q _ h => hFc q h) hFc (fun r_423 u t H1 locs ht hvm hw hB hz1 hk1 hS => ?_)
  obtain ⟨hP1, hK1, hD1⟩ := hB
  rw [ht] at hP1
  have hK1 := va_K.moved hvm.symm hK1
  obtain ⟨hP, hD⟩ := va_join (wr := [(h0, .inr (15, [v0, v1, v2, v3, .ref a, .int 0]))]) (w1 := [(a, .inr (4, [.int m0, w1, .int 0]))]) hP hD [1] [0] rfl rfl (by decide) (by decide) hk1 hFc hP1 hD1
  have hK := (hK.sub (tys' := []) [] rfl).app hK1
  generalize H1 = H at hP hS ⊢
  have hP : va_P (dC, dI) vwCl [(h0, .inr (15, [v0, v1, v2, v3, .ref a, .int 0])), (a, .inr (4, [.int m0, w1, .int 0]))] H := hP
  have hD : va_D A [(h0, .inr (15, [v0, v1, v2, v3, .ref a, .int 0])), (a, .inr (4, [.int m0, w1, .int 0]))] := hD
  have hK : va_K (dC, dI) vwCl [] s := hK
  refine W.widen (k := 6) (n := 21) (Nat.le_of_ble_eq_true rfl) (Nat.le_of_ble_eq_true rfl) ?_
  have hw : r_423 = 0 := hw
  subst hw
  have hP9 := hP.sub (ws' := [(h0, .inr (15, [v0, v1, v2, v3, .ref a, .int 0])), (a, .inr (4, [.int m0, w1, .int 0]))]) [0, 1] rfl
  have hD9 := hD.sub (ws' := [(h0, .inr (15, [v0, v1, v2, v3, .ref a, .int 0])), (a, .inr (4, [.int m0, w1, .int 0]))]) [0, 1] (by decide) rfl
  have hK9 := hK.sub (tys' := []) [] rfl
  refine W.widen (k := 6) (n := 21) (Nat.le_of_ble_eq_true rfl) (Nat.le_of_ble_eq_true rfl) ?_
  exact W.lret (v := 0) hx hb hr (fun t ht hW => ⟨⟨0, (), rfl, rfl, ⟨by rw [ht]; exact hP9, va_K.moved hW.alike hK9, hD9⟩⟩, hS.F ht⟩) hS.2.2 dX10_damageOfRow_12
set_option maxHeartbeats 4000000 in
set_option maxRecDepth 100000 in
theorem n_numberInit (l : Launch) (dC : Nat → ClassId) (dI : Nat → Nat → Nat) (sz : Nat) (h0 : Nat) : Met l yJxd2413_init_da8c8 (pw_ws yJxd2413_init_da8c8 cJxd2413_init_da8c8 1 none) ({ frames := 1, cells := 0, slots := 0, locals := 20 } : Room) (va_Pc [.ref h0] (fun U => U.heap.size = sz ∧ va_P (dC, dI) vwCl [] U.heap ∧ va_K (dC, dI) vwCl [] U ∧ va_D (fun _ => True) [])) (va_Qv (fun (_ : Unit) => True) (fun (_ : Unit) (t : State) => va_P (dC, dI) vwCl [] t.heap ∧ va_K (dC, dI) vwCl [] t ∧ va_D (va_A [] sz) []) (va_A [] sz)) 0 0 (va_A [] sz) := by
  refine Met.ofW (cc := cJxd2413_init_da8c8) (maxL := 1) (ret := none) (by decide) rfl ?_
  intro p e s m args below meth c s₁ B hml hv
  obtain ⟨rfl, hsz, hP, hK, hD0⟩ := hv
  have hx := B.exec
  have hb := B.bytes
  have hr := B.returns
  have hts0 := atoms_spec (ws := (pw_ws yJxd2413_init_da8c8 cJxd2413_init_da8c8 1 none)) B.pre
  have hts : ∀ w ∈ pw_all, w.before _ s = true := fun w h => hts0 w (List.mem_cons_of_mem _ h)
  have hown : s.vm.findClass RJxd2413 = some m.cls := findClass_of_methodNamed B.named
  have hlocks := B.notSynchronized
  have hin : meth.name = "<init>" := (name_of_methodNamed B.named B.method).1
  subst hsz
  have hD := hD0.self (sz := s.heap.size)
  generalize hAe : va_A [] s.heap.size = A at hD ⊢
  have hA : ∀ q : Nat, s.heap.size ≤ q → A q := fun q h => by rw [← hAe]; exact Or.inr h
  have hS : va_S A s.heap s.heap [] := va_S.rf
  have hP : va_P (dC, dI) vwCl [] s.heap := hP
  have hl := lv_entry ([.ref h0]) (n := 1) (Nat.le_of_ble_eq_true rfl)
  rw [lg_entry_eq]
  generalize (lg_sl ([.ref h0]) ++ List.replicate (1 - (lg_sl ([.ref h0])).length) Slot.unset).toArray = ls at hl ⊢
  have hl : lv_has ls 1 [(0, .ref h0)] := hl
  skip
  refine lv_aload_n hx hb dJxd2413_init_da8c8_0 rfl (lv_at hl 0 rfl) ?_
  refine W.objInit hx hb hown (hts _ q1985) (hts _ q86) (hts _ q87) rfl (by rw [hml]; exact hl.1) rfl dJxd2413_init_da8c8_1 (Nat.le_of_ble_eq_true rfl) (Nat.le_of_ble_eq_true rfl) ?_
  refine W.eq (g2 := F0 m 4 ls []) rfl ?_
  have hP9 := hP.sub (ws' := []) [] rfl
  have hD9 := hD.sub (ws' := []) [] (by decide) rfl
  have hK9 := hK.sub (tys' := []) [] rfl
  refine W.widen (k := 0) (n := 0) (Nat.le_of_ble_eq_true rfl) (Nat.le_of_ble_eq_true rfl) ?_
  exact W.vret hx hb hr (fun t ht hW => ⟨⟨(), rfl, trivial, ⟨by rw [ht]; exact hP9, va_K.moved hW.alike hK9, hD9⟩⟩, hS.F ht⟩) hS.2.2 dJxd2413_init_da8c8_4
set_option maxHeartbeats 4000000 in
set_option maxRecDepth 100000 in
theorem n_integerInit (l : Launch) (dC : Nat → ClassId) (dI : Nat → Nat → Nat) (sz : Nat) (h0 : Nat) (p0 : Int32) : Met l yJ6_init_d00df (pw_ws yJ6_init_d00df cJ6_init_d00df 2 none) ({ frames := 2, cells := 0, slots := 0, locals := 40 } : Room) (va_Pc [.ref h0, .int p0] (fun U => U.heap.size = sz ∧ va_P (dC, dI) vwCl [(h0, .inr (2, [.int 0]))] U.heap ∧ va_K (dC, dI) vwCl [] U ∧ va_D (fun _ => True) [(h0, .inr (2, [.int 0]))])) (va_Qv (fun (_ : Unit) => True) (fun (_ : Unit) (t : State) => va_P (dC, dI) vwCl [(h0, .inr (2, [.int p0]))] t.heap ∧ va_K (dC, dI) vwCl [] t ∧ va_D (va_A [(h0, .inr (2, [.int 0]))] sz) [(h0, .inr (2, [.int p0]))]) (va_A [(h0, .inr (2, [.int 0]))] sz)) 0 0 (va_A [(h0, .inr (2, [.int 0]))] sz) := by
  refine Met.ofW (cc := cJ6_init_d00df) (maxL := 2) (ret := none) (by decide) rfl ?_
  intro p e s m args below meth c s₁ B hml hv
  obtain ⟨rfl, hsz, hP, hK, hD0⟩ := hv
  have hx := B.exec
  have hb := B.bytes
  have hr := B.returns
  have hts0 := atoms_spec (ws := (pw_ws yJ6_init_d00df cJ6_init_d00df 2 none)) B.pre
  have hts : ∀ w ∈ pw_all, w.before _ s = true := fun w h => hts0 w (List.mem_cons_of_mem _ h)
  have hown : s.vm.findClass RJ6 = some m.cls := findClass_of_methodNamed B.named
  have hlocks := B.notSynchronized
  have hin : meth.name = "<init>" := (name_of_methodNamed B.named B.method).1
  subst hsz
  have hD := hD0.self (sz := s.heap.size)
  generalize hAe : va_A [(h0, .inr (2, [.int 0]))] s.heap.size = A at hD ⊢
  have hA : ∀ q : Nat, s.heap.size ≤ q → A q := fun q h => by rw [← hAe]; exact Or.inr h
  have hS : va_S A s.heap s.heap [] := va_S.rf
  have hP : va_P (dC, dI) vwCl [(h0, .inr (2, [.int 0]))] s.heap := hP
  have hl := lv_entry ([.ref h0, .int p0]) (n := 2) (Nat.le_of_ble_eq_true rfl)
  rw [lg_entry_eq]
  generalize (lg_sl ([.ref h0, .int p0]) ++ List.replicate (2 - (lg_sl ([.ref h0, .int p0])).length) Slot.unset).toArray = ls at hl ⊢
  have hl : lv_has ls 2 [(0, .ref h0), (1, .int p0)] := hl
  skip
  refine lv_aload_n hx hb dJ6_init_d00df_0 rfl (lv_at hl 0 rfl) ?_
  have hPc := hP.sub (ws' := []) [] rfl
  have hDc := hD.sub (ws' := []) [] (by decide) rfl
  have hKc := hK.sub (tys' := []) [] rfl
  have hFc := va_free (wc := []) hD hS hA [] rfl
  refine va_callv (va_runI (As := []) (rest := []) ⟨hx, hb, hml, hown, hts⟩ (n_numberInit l dC dI s.heap.size h0) (cwI 0 hts (pw_c q1984) rfl rfl rfl (hts _ q77) (hts _ q1982) (hts _ q1983) rfl (by decide +kernel) ⟨(Nat.le_of_ble_eq_true rfl), (Nat.le_of_ble_eq_true rfl)⟩) ⟨fun a U g mk q => by obtain ⟨q0, q1, qP, qK, qD⟩ := q; exact ⟨q0, q1, qP, va_K.moved (u := U) (U := U.calling g mk a) (Vm.Alike.refl U.vm) qK, qD⟩, fun U hU hW => ⟨rfl, by rw [hU], by rw [hU]; exact hPc, va_K.moved hW.alike hKc, hDc.weaken (fun _ _ _ _ => trivial)⟩⟩ rfl rfl hl.1 rfl (lv_room (Nat.le_of_ble_eq_true rfl)) dJ6_init_d00df_1 ⟨(Nat.le_of_ble_eq_true rfl), (Nat.le_of_ble_eq_true rfl)⟩) hS (fun q _ h => hFc q h) hFc (fun u t H1 locs ht hvm hw hB hz1 hk1 hS => ?_)
  obtain ⟨hP1, hK1, hD1⟩ := hB
  rw [ht] at hP1
  have hK1 := va_K.moved hvm.symm hK1
  obtain ⟨hP, hD⟩ := va_join (wr := [(h0, .inr (2, [.int 0]))]) (w1 := []) hP hD [] [0] rfl rfl (by decide) (by decide) hk1 hFc hP1 hD1
  have hK := (hK.sub (tys' := []) [] rfl).app hK1
  generalize H1 = H at hP hS ⊢
  have hP : va_P (dC, dI) vwCl [(h0, .inr (2, [.int 0]))] H := hP
  have hD : va_D A [(h0, .inr (2, [.int 0]))] := hD
  have hK : va_K (dC, dI) vwCl [] s := hK
  refine W.widen (k := 0) (n := 0) (Nat.le_of_ble_eq_true rfl) (Nat.le_of_ble_eq_true rfl) ?_
  refine lv_aload_n hx hb dJ6_init_d00df_4 rfl (lv_at hl 0 rfl) ?_
  refine lv_iload_n hx hb dJ6_init_d00df_5 rfl (lv_at hl 1 rfl) ?_
  refine va_putF (D := (dC, dI)) (ci := 2) (v := .int p0) (ty := .int) (C := RJ6) (T := TJ6) (N := 1) hx hb hts inJ6 tyJ6 tyJ6_ok nmJ6 hown hK hP hD hS 0 rfl rfl 0 (by decide) (hts _ q1986) (fun _ h9 => h9) rfl hin rfl (by decide +kernel) rfl rfl (Nat.le_of_ble_eq_true rfl) dJ6_init_d00df_6 (fun H locs hP hD hS => ?_)
  have hP : va_P (dC, dI) vwCl [(h0, .inr (2, [.int p0]))] H := hP
  have hD : va_D A [(h0, .inr (2, [.int p0]))] := hD
  have hP9 := hP.sub (ws' := [(h0, .inr (2, [.int p0]))]) [0] rfl
  have hD9 := hD.sub (ws' := [(h0, .inr (2, [.int p0]))]) [0] (by decide) rfl
  have hK9 := hK.sub (tys' := []) [] rfl
  refine W.widen (k := 0) (n := 0) (Nat.le_of_ble_eq_true rfl) (Nat.le_of_ble_eq_true rfl) ?_
  exact W.vret hx hb hr (fun t ht hW => ⟨⟨(), rfl, trivial, ⟨by rw [ht]; exact hP9, va_K.moved hW.alike hK9, hD9⟩⟩, hS.F ht⟩) hS.2.2 dJ6_init_d00df_9
set_option maxHeartbeats 4000000 in
set_option maxRecDepth 100000 in
theorem n_valueOf (l : Launch) (dC : Nat → ClassId) (dI : Nat → Nat → Nat) (sz : Nat) (ed : Nat) (a : Nat) (w0 : Value) (w1 : Value) (w2 : Value) (p0 : Int32) : Met l yJ6_valueOf_2dffe (pw_ws yJ6_valueOf_2dffe cJ6_valueOf_2dffe 1 (some (.object "java/lang/Integer"))) ({ frames := 3, cells := 1, slots := 1, locals := 61 } : Room) (va_Pc [.int p0] (fun U => U.heap.size = sz ∧ va_P (dC, dI) vwCl [(a, .inr (4, [w0, w1, w2]))] U.heap ∧ va_K (dC, dI) vwCl [] U ∧ va_D (fun _ => True) [(a, .inr (4, [w0, w1, w2]))] ∧ pz ed (va_A [(a, .inr (4, [w0, w1, w2]))] sz) U U.heap)) (va_Qr (fun (_ : Unit) => True) (fun (_ : Unit) (ra : Nat) (t : State) => (va_Any "java/lang/Object" t t.heap ra ∧ ra ≠ a) ∧ va_P (dC, dI) vwCl [(a, .inr (4, [w0, w1, w2]))] t.heap ∧ va_K (dC, dI) vwCl [] t ∧ va_D (va_A [(a, .inr (4, [w0, w1, w2]))] sz) [(a, .inr (4, [w0, w1, w2]))]) (va_A [(a, .inr (4, [w0, w1, w2]))] sz)) 1 1 (va_A [(a, .inr (4, [w0, w1, w2]))] sz) := by
  refine Met.ofW (cc := cJ6_valueOf_2dffe) (maxL := 1) (ret := (some (.object "java/lang/Integer"))) (by decide) rfl ?_
  intro p e s m args below meth c s₁ B hml hv
  obtain ⟨rfl, hsz, hP, hK, hD0, hZ⟩ := hv
  have hx := B.exec
  have hb := B.bytes
  have hr := B.returns
  have hts0 := atoms_spec (ws := (pw_ws yJ6_valueOf_2dffe cJ6_valueOf_2dffe 1 (some (.object "java/lang/Integer")))) B.pre
  have hts : ∀ w ∈ pw_all, w.before _ s = true := fun w h => hts0 w (List.mem_cons_of_mem _ h)
  have hown : s.vm.findClass RJ6 = some m.cls := findClass_of_methodNamed B.named
  have hlocks := B.notSynchronized
  subst hsz
  have hD := hD0.self (sz := s.heap.size)
  generalize hAe : va_A [(a, .inr (4, [w0, w1, w2]))] s.heap.size = A at hD hZ ⊢
  have hA : ∀ q : Nat, s.heap.size ≤ q → A q := fun q h => by rw [← hAe]; exact Or.inr h
  have hS : va_S A s.heap s.heap [] := va_S.rf
  have hP : va_P (dC, dI) vwCl [(a, .inr (4, [w0, w1, w2]))] s.heap := hP
  have hl := lv_entry ([.int p0]) (n := 1) (Nat.le_of_ble_eq_true rfl)
  rw [lg_entry_eq]
  generalize (lg_sl ([.int p0]) ++ List.replicate (1 - (lg_sl ([.int p0])).length) Slot.unset).toArray = ls at hl ⊢
  have hl : lv_has ls 1 [(0, .int p0)] := hl
  obtain ⟨ad, tc, hcC, hcT, hcZ, hcH⟩ := hZ.boxes
  refine lv_iload_n hx hb dJ6_valueOf_2dffe_0 rfl (lv_at hl 0 rfl) ?_
  refine lv_bipush (v := -128) hx hb dJ6_valueOf_2dffe_1 (by decide) ?_
  refine lv_icmp_lt (tgt := 23) hx hb dJ6_valueOf_2dffe_3 (by decide) (fun c_425 => ?_) (fun c_425 => ?_)
  · skip
    refine va_new (ci := 2) (fs := [.int 0]) (C := RJ6) (T := TJ6) (N := 1) hx hb hts inJ6 tyJ6 tyJ6_ok hown (hts _ q1977) (hts _ q1978) (hts _ q78) hK hP hD hS hA rfl (fun j hj => by rcases (show j = 0 by omega) with rfl <;> rfl) (Nat.le_of_ble_eq_true rfl) (Nat.le_of_ble_eq_true rfl) dJ6_valueOf_2dffe_23 (fun q_426 H hP hD hS => ?_)
    have hP : va_P (dC, dI) vwCl [(a, .inr (4, [w0, w1, w2])), (q_426, .inr (2, [.int 0]))] H := hP
    have hD : va_D A [(a, .inr (4, [w0, w1, w2])), (q_426, .inr (2, [.int 0]))] := hD
    refine W.widen (k := 1) (n := 1) (Nat.le_of_ble_eq_true rfl) (Nat.le_of_ble_eq_true rfl) ?_
    refine lv_dup hx hb dJ6_valueOf_2dffe_26 rfl ?_
    refine lv_iload_n hx hb dJ6_valueOf_2dffe_27 rfl (lv_at hl 0 rfl) ?_
    have hPc := hP.sub (ws' := [(q_426, .inr (2, [.int 0]))]) [1] rfl
    have hDc := hD.sub (ws' := [(q_426, .inr (2, [.int 0]))]) [1] (by decide) rfl
    have hKc := hK.sub (tys' := []) [] rfl
    have hFc := va_free (wc := [(q_426, .inr (2, [.int 0]))]) hD hS hA [1] rfl
    refine va_callv (va_runI (As := [.int p0]) (rest := [.ref q_426]) ⟨hx, hb, hml, hown, hts⟩ (n_integerInit l dC dI H.size q_426 p0) (cwI 1 hts (pw_c q1981) rfl rfl rfl (hts _ q78) (hts _ q1979) (hts _ q1980) rfl (by decide +kernel) ⟨(Nat.le_of_ble_eq_true rfl), (Nat.le_of_ble_eq_true rfl)⟩) ⟨fun a U g mk q => by obtain ⟨q0, q1, qP, qK, qD⟩ := q; exact ⟨q0, q1, qP, va_K.moved (u := U) (U := U.calling g mk a) (Vm.Alike.refl U.vm) qK, qD⟩, fun U hU hW => ⟨rfl, by rw [hU], by rw [hU]; exact hPc, va_K.moved hW.alike hKc, hDc.weaken (fun _ _ _ _ => trivial)⟩⟩ rfl rfl hl.1 rfl (lv_room (Nat.le_of_ble_eq_true rfl)) dJ6_valueOf_2dffe_28 ⟨(Nat.le_of_ble_eq_true rfl), (Nat.le_of_ble_eq_true rfl)⟩) hS (fun q _ h => hFc q h) hFc (fun u t H1 locs ht hvm hw hB hz1 hk1 hS => ?_)
    obtain ⟨hP1, hK1, hD1⟩ := hB
    rw [ht] at hP1
    have hK1 := va_K.moved hvm.symm hK1
    obtain ⟨hP, hD⟩ := va_join (wr := [(a, .inr (4, [w0, w1, w2]))]) (w1 := [(q_426, .inr (2, [.int p0]))]) hP hD [1] [0] rfl rfl (by decide) (by decide) hk1 hFc hP1 hD1
    have hK := (hK.sub (tys' := []) [] rfl).app hK1
    generalize H1 = H at hP hS ⊢
    have hP : va_P (dC, dI) vwCl [(a, .inr (4, [w0, w1, w2])), (q_426, .inr (2, [.int p0]))] H := hP
    have hD : va_D A [(a, .inr (4, [w0, w1, w2])), (q_426, .inr (2, [.int p0]))] := hD
    have hK : va_K (dC, dI) vwCl [] s := hK
    refine W.widen (k := 1) (n := 1) (Nat.le_of_ble_eq_true rfl) (Nat.le_of_ble_eq_true rfl) ?_
    have hP9 := hP.sub (ws' := [(a, .inr (4, [w0, w1, w2]))]) [0] rfl
    have hD9 := hD.sub (ws' := [(a, .inr (4, [w0, w1, w2]))]) [0] (by decide) rfl
    have hK9 := hK.sub (tys' := []) [] rfl
    refine W.widen (k := 1) (n := 1) (Nat.le_of_ble_eq_true rfl) (Nat.le_of_ble_eq_true rfl) ?_
    have hAny := va_rAny (E := "java/lang/Object") hK hP (q0 := 1) (ci := 2) rfl rfl (vb_asgC (va_Nw.of (A := #[]) rfl (hZ.cast (by decide))))
    have hNe : q_426 ≠ a := fun e9 => absurd (hD.1 1 0 _ _ rfl rfl e9) (by decide)
    exact W.aret (v := .ref q_426) hx hb hr (by first | exact Or.inl ⟨_, rfl⟩ | exact Or.inr ⟨_, rfl⟩) (Or.inr ⟨_, rfl⟩) (fun t ht hW => ⟨⟨(), q_426, rfl, trivial, ⟨⟨by rw [ht]; exact pe_mv hW.alike hAny, hNe⟩, by rw [ht]; exact hP9, va_K.moved hW.alike hK9, hD9⟩⟩, hS.F ht⟩) hS.2.2 dJ6_valueOf_2dffe_31
  · skip
    refine lv_iload_n hx hb dJ6_valueOf_2dffe_6 rfl (lv_at hl 0 rfl) ?_
    refine va_gets hx hb hcH hS hown (hts _ q1973) (fun _ h9 => h9) dJ6_valueOf_2dffe_7 ?_
    refine lv_icmp_gt (tgt := 23) hx hb dJ6_valueOf_2dffe_10 (by decide) (fun c_428 => ?_) (fun c_428 => ?_)
    · skip
      refine va_new (ci := 2) (fs := [.int 0]) (C := RJ6) (T := TJ6) (N := 1) hx hb hts inJ6 tyJ6 tyJ6_ok hown (hts _ q1977) (hts _ q1978) (hts _ q78) hK hP hD hS hA rfl (fun j hj => by rcases (show j = 0 by omega) with rfl <;> rfl) (Nat.le_of_ble_eq_true rfl) (Nat.le_of_ble_eq_true rfl) dJ6_valueOf_2dffe_23 (fun q_429 H hP hD hS => ?_)
      have hP : va_P (dC, dI) vwCl [(a, .inr (4, [w0, w1, w2])), (q_429, .inr (2, [.int 0]))] H := hP
      have hD : va_D A [(a, .inr (4, [w0, w1, w2])), (q_429, .inr (2, [.int 0]))] := hD
      refine W.widen (k := 1) (n := 1) (Nat.le_of_ble_eq_true rfl) (Nat.le_of_ble_eq_true rfl) ?_
      refine lv_dup hx hb dJ6_valueOf_2dffe_26 rfl ?_
      refine lv_iload_n hx hb dJ6_valueOf_2dffe_27 rfl (lv_at hl 0 rfl) ?_
      have hPc := hP.sub (ws' := [(q_429, .inr (2, [.int 0]))]) [1] rfl
      have hDc := hD.sub (ws' := [(q_429, .inr (2, [.int 0]))]) [1] (by decide) rfl
      have hKc := hK.sub (tys' := []) [] rfl
      have hFc := va_free (wc := [(q_429, .inr (2, [.int 0]))]) hD hS hA [1] rfl
      refine va_callv (va_runI (As := [.int p0]) (rest := [.ref q_429]) ⟨hx, hb, hml, hown, hts⟩ (n_integerInit l dC dI H.size q_429 p0) (cwI 1 hts (pw_c q1981) rfl rfl rfl (hts _ q78) (hts _ q1979) (hts _ q1980) rfl (by decide +kernel) ⟨(Nat.le_of_ble_eq_true rfl), (Nat.le_of_ble_eq_true rfl)⟩) ⟨fun a U g mk q => by obtain ⟨q0, q1, qP, qK, qD⟩ := q; exact ⟨q0, q1, qP, va_K.moved (u := U) (U := U.calling g mk a) (Vm.Alike.refl U.vm) qK, qD⟩, fun U hU hW => ⟨rfl, by rw [hU], by rw [hU]; exact hPc, va_K.moved hW.alike hKc, hDc.weaken (fun _ _ _ _ => trivial)⟩⟩ rfl rfl hl.1 rfl (lv_room (Nat.le_of_ble_eq_true rfl)) dJ6_valueOf_2dffe_28 ⟨(Nat.le_of_ble_eq_true rfl), (Nat.le_of_ble_eq_true rfl)⟩) hS (fun q _ h => hFc q h) hFc (fun u t H1 locs ht hvm hw hB hz1 hk1 hS => ?_)
      obtain ⟨hP1, hK1, hD1⟩ := hB
      rw [ht] at hP1
      have hK1 := va_K.moved hvm.symm hK1
      obtain ⟨hP, hD⟩ := va_join (wr := [(a, .inr (4, [w0, w1, w2]))]) (w1 := [(q_429, .inr (2, [.int p0]))]) hP hD [1] [0] rfl rfl (by decide) (by decide) hk1 hFc hP1 hD1
      have hK := (hK.sub (tys' := []) [] rfl).app hK1
      generalize H1 = H at hP hS ⊢
      have hP : va_P (dC, dI) vwCl [(a, .inr (4, [w0, w1, w2])), (q_429, .inr (2, [.int p0]))] H := hP
      have hD : va_D A [(a, .inr (4, [w0, w1, w2])), (q_429, .inr (2, [.int p0]))] := hD
      have hK : va_K (dC, dI) vwCl [] s := hK
      refine W.widen (k := 1) (n := 1) (Nat.le_of_ble_eq_true rfl) (Nat.le_of_ble_eq_true rfl) ?_
      have hP9 := hP.sub (ws' := [(a, .inr (4, [w0, w1, w2]))]) [0] rfl
      have hD9 := hD.sub (ws' := [(a, .inr (4, [w0, w1, w2]))]) [0] (by decide) rfl
      have hK9 := hK.sub (tys' := []) [] rfl
      refine W.widen (k := 1) (n := 1) (Nat.le_of_ble_eq_true rfl) (Nat.le_of_ble_eq_true rfl) ?_
      have hAny := va_rAny (E := "java/lang/Object") hK hP (q0 := 1) (ci := 2) rfl rfl (vb_asgC (va_Nw.of (A := #[]) rfl (hZ.cast (by decide))))
      have hNe : q_429 ≠ a := fun e9 => absurd (hD.1 1 0 _ _ rfl rfl e9) (by decide)
      exact W.aret (v := .ref q_429) hx hb hr (by first | exact Or.inl ⟨_, rfl⟩ | exact Or.inr ⟨_, rfl⟩) (Or.inr ⟨_, rfl⟩) (fun t ht hW => ⟨⟨(), q_429, rfl, trivial, ⟨⟨by rw [ht]; exact pe_mv hW.alike hAny, hNe⟩, by rw [ht]; exact hP9, va_K.moved hW.alike hK9, hD9⟩⟩, hS.F ht⟩) hS.2.2 dJ6_valueOf_2dffe_31
    · skip
      refine va_gets hx hb hcZ hS hown (hts _ q1975) (fun _ h9 => h9) dJ6_valueOf_2dffe_13 ?_
      refine lv_iload_n hx hb dJ6_valueOf_2dffe_16 rfl (lv_at hl 0 rfl) ?_
      refine lv_sipush (v := 128) hx hb dJ6_valueOf_2dffe_17 (by decide) ?_
      refine lv_iadd hx hb dJ6_valueOf_2dffe_20 ?_
      obtain ⟨j9, hj9, ej9, -⟩ := bx_small c_425 c_428
      refine lv_numI2 (v := nI j9) ej9 ?_
      refine vb_tq (v := .ref (ad j9)) hx hb hcT hS (vp_in_nI hj9 (by omega)) (by rw [nI_clamp (by omega)]) dJ6_valueOf_2dffe_21 ?_
      have hAny := pe_ofO (hcC.1 j9 hj9) (hZ.cast (by decide))
      have hNe : ad j9 ≠ a := fun e9 => by obtain ⟨_, _, _, _, h9⟩ := hcC.1 j9 hj9; exact h9 (by rw [e9]; exact hD.2 0 _ rfl)
      have hP9 := hP.sub (ws' := [(a, .inr (4, [w0, w1, w2]))]) [0] rfl
      have hD9 := hD.sub (ws' := [(a, .inr (4, [w0, w1, w2]))]) [0] (by decide) rfl
      have hK9 := hK.sub (tys' := []) [] rfl
      refine W.widen (k := 1) (n := 1) (Nat.le_of_ble_eq_true rfl) (Nat.le_of_ble_eq_true rfl) ?_
      exact W.aret (v := .ref (ad j9)) hx hb hr (by first | exact Or.inl ⟨_, rfl⟩ | exact Or.inr ⟨_, rfl⟩) (Or.inr ⟨_, rfl⟩) (fun t ht hW => ⟨⟨(), (ad j9), rfl, trivial, ⟨⟨by rw [ht]; exact pe_mv hW.alike hAny, hNe⟩, by rw [ht]; exact hP9, va_K.moved hW.alike hK9, hD9⟩⟩, hS.F ht⟩) hS.2.2 dJ6_valueOf_2dffe_22
set_option maxHeartbeats 4000000 in
set_option maxRecDepth 100000 in
theorem z_typeOk (l : Launch) (dC : Nat → ClassId) (dI : Nat → Nat → Nat) (sz : Nat) (ed : Nat) (h0 : Nat) (a : Nat) (v0 : Value) (v1 : Value) (v2 : Value) (v3 : Value) (th : Int32) (m0 : Int32) (p0 : Int32) (h1 : ¬ p0 < (-99999)) (h2 : ¬ 99999 < p0) : Met l yX10_type (pw_ws yX10_type cX10_type 2 (some .int)) ({ frames := 5, cells := 2, slots := 11, locals := 107 } : Room) (va_Pc [.ref h0, .int p0] (fun U => U.heap.size = sz ∧ va_P (dC, dI) vwCl [(h0, .inr (15, [v0, v1, v2, v3, .ref a, .int th])), (a, .inr (4, [.int m0, .ref ed, .int 0]))] U.heap ∧ va_K (dC, dI) vwCl [] U ∧ va_D (fun _ => True) [(h0, .inr (15, [v0, v1, v2, v3, .ref a, .int th])), (a, .inr (4, [.int m0, .ref ed, .int 0]))] ∧ pz ed (va_A [(h0, .inr (15, [v0, v1, v2, v3, .ref a, .int th])), (a, .inr (4, [.int m0, .ref ed, .int 0]))] sz) U U.heap)) (va_Qi (fun (r : Int32) (_ : Unit) => r = 1) (fun (_ : Unit) (t : State) => ∃ (qb : Nat), va_P (dC, dI) vwCl [(h0, .inr (15, [v0, v1, v2, v3, .ref a, .int 0])), (a, .inr (4, [.int (m0 + 1), .ref qb, .int 1]))] t.heap ∧ va_K (dC, dI) vwCl [] t ∧ va_D (va_A [(h0, .inr (15, [v0, v1, v2, v3, .ref a, .int th])), (a, .inr (4, [.int m0, .ref ed, .int 0]))] sz) [(h0, .inr (15, [v0, v1, v2, v3, .ref a, .int 0])), (a, .inr (4, [.int (m0 + 1), .ref qb, .int 1]))]) (va_A [(h0, .inr (15, [v0, v1, v2, v3, .ref a, .int th])), (a, .inr (4, [.int m0, .ref ed, .int 0]))] sz)) 2 11 (va_A [(h0, .inr (15, [v0, v1, v2, v3, .ref a, .int th])), (a, .inr (4, [.int m0, .ref ed, .int 0]))] sz) := by
  refine Met.ofW (cc := cX10_type) (maxL := 2) (ret := (some .int)) (by decide) rfl ?_
  intro p e s m args below meth c s₁ B hml hv
  obtain ⟨rfl, hsz, hP, hK, hD0, hZ⟩ := hv
  have hx := B.exec
  have hb := B.bytes
  have hr := B.returns
  have hts0 := atoms_spec (ws := (pw_ws yX10_type cX10_type 2 (some .int))) B.pre
  have hts : ∀ w ∈ pw_all, w.before _ s = true := fun w h => hts0 w (List.mem_cons_of_mem _ h)
  have hown : s.vm.findClass RX10 = some m.cls := findClass_of_methodNamed B.named
  have hlocks := B.notSynchronized
  subst hsz
  have hD := hD0.self (sz := s.heap.size)
  generalize hAe : va_A [(h0, .inr (15, [v0, v1, v2, v3, .ref a, .int th])), (a, .inr (4, [.int m0, .ref ed, .int 0]))] s.heap.size = A at hD hZ ⊢
  have hA : ∀ q : Nat, s.heap.size ≤ q → A q := fun q h => by rw [← hAe]; exact Or.inr h
  have hS : va_S A s.heap s.heap [] := va_S.rf
  have hP : va_P (dC, dI) vwCl [(h0, .inr (15, [v0, v1, v2, v3, .ref a, .int th])), (a, .inr (4, [.int m0, .ref ed, .int 0]))] s.heap := hP
  have hl := lv_entry ([.ref h0, .int p0]) (n := 2) (Nat.le_of_ble_eq_true rfl)
  rw [lg_entry_eq]
  generalize (lg_sl ([.ref h0, .int p0]) ++ List.replicate (2 - (lg_sl ([.ref h0, .int p0])).length) Slot.unset).toArray = ls at hl ⊢
  have hl : lv_has ls 2 [(0, .ref h0), (1, .int p0)] := hl
  skip
  refine lv_aload_n hx hb dX10_type_0 rfl (lv_at hl 0 rfl) ?_
  refine lv_iload_n hx hb dX10_type_1 rfl (lv_at hl 1 rfl) ?_
  refine lv_ldcw (v := -99999) hx hb hown (hts _ q1969) dX10_type_2 ?_
  refine lv_ldc (v := 99999) hx hb hown (hts _ q1443) dX10_type_5 ?_
  have hPc := hP.sub (ws' := []) [] rfl
  have hDc := hD.sub (ws' := []) [] (by decide) rfl
  have hKc := hK.sub (tys' := []) [] rfl
  have hFc := va_free (wc := []) hD hS hA [] rfl
  refine va_calli (va_runS (As := [.int p0, .int (-99999), .int 99999]) (rest := [.ref h0]) ⟨hx, hb, hml, hown, hts⟩ (n_isIn1 l dC dI s.heap.size p0 (-99999) 99999 h1 h2) (va_cwS 3 hts (pw_S q1299 q1300 q49 q1301) rfl rfl rfl (by decide +kernel) ⟨(Nat.le_of_ble_eq_true rfl), (Nat.le_of_ble_eq_true rfl)⟩) ⟨fun a U g mk q => by obtain ⟨q0, q1, qP, qK, qD⟩ := q; exact ⟨q0, q1, qP, va_K.moved (u := U) (U := U.calling g mk a) (Vm.Alike.refl U.vm) qK, qD⟩, fun U hU hW => ⟨rfl, by rw [hU], by rw [hU]; exact hPc, va_K.moved hW.alike hKc, hDc.weaken (fun _ _ _ _ => trivial)⟩⟩ rfl rfl hl.1 rfl (lv_room (Nat.le_of_ble_eq_true rfl)) dX10_type_7 ⟨(Nat.le_of_ble_eq_true rfl), (Nat.le_of_ble_eq_true rfl)⟩) hS (fun q _ h => hFc q h) hFc (fun r_431 u t H1 locs ht hvm hw hB hz1 hk1 hS => ?_)
  obtain ⟨hP1, hK1, hD1⟩ := hB
  rw [ht] at hP1
  have hK1 := va_K.moved hvm.symm hK1
  obtain ⟨hP, hD⟩ := va_join (wr := [(h0, .inr (15, [v0, v1, v2, v3, .ref a, .int th])), (a, .inr (4, [.int m0, .ref ed, .int 0]))]) (w1 := []) hP hD [] [0, 1] rfl rfl (by decide) (by decide) hk1 hFc hP1 hD1
  have hK := (hK.sub (tys' := []) [] rfl).app hK1
  generalize H1 = H at hP hS ⊢
  have hP : va_P (dC, dI) vwCl [(h0, .inr (15, [v0, v1, v2, v3, .ref a, .int th])), (a, .inr (4, [.int m0, .ref ed, .int 0]))] H := hP
  have hD : va_D A [(h0, .inr (15, [v0, v1, v2, v3, .ref a, .int th])), (a, .inr (4, [.int m0, .ref ed, .int 0]))] := hD
  have hK : va_K (dC, dI) vwCl [] s := hK
  refine W.widen (k := 0) (n := 0) (Nat.le_of_ble_eq_true rfl) (Nat.le_of_ble_eq_true rfl) ?_
  have hw : r_431 = 1 := hw
  subst hw
  refine lv_if_ne (tgt := 17) hx hb dX10_type_10 (by decide) (fun c_432 => ?_) (fun c_432 => absurd c_432 (by decide))
  refine lv_iconst (v := 0) hx hb dX10_type_17 (by decide) ?_
  refine lv_iconst (v := 1) hx hb dX10_type_18 (by decide) ?_
  have hPc := hP.sub (ws' := [(h0, .inr (15, [v0, v1, v2, v3, .ref a, .int th]))]) [0] rfl
  have hDc := hD.sub (ws' := [(h0, .inr (15, [v0, v1, v2, v3, .ref a, .int th]))]) [0] (by decide) rfl
  have hKc := hK.sub (tys' := []) [] rfl
  have hFc := va_free (wc := [(h0, .inr (15, [v0, v1, v2, v3, .ref a, .int th]))]) hD hS hA [0] rfl
  refine va_calli (va_runV (As := [.int 0, .int 1]) (rest := []) ⟨hx, hb, hml, hown, hts⟩ (n_isThrown0 l dC dI H.size h0 v0 v1 v2 v3 (.ref a) th 1) (cwV 2 hts (pw_V q1253 q1255 q19 q49 q1256) rfl rfl rfl (by decide +kernel) ⟨(Nat.le_of_ble_eq_true rfl), (Nat.le_of_ble_eq_true rfl)⟩) ⟨fun a U g mk q => by obtain ⟨q0, q1, qP, qK, qD⟩ := q; exact ⟨q0, q1, qP, va_K.moved (u := U) (U := U.calling g mk a) (Vm.Alike.refl U.vm) qK, qD⟩, va_recv hKc hPc (ci := 15) (q0 := 0) rfl rfl, fun U hU hW => ⟨rfl, by rw [hU], by rw [hU]; exact hPc, va_K.moved hW.alike hKc, hDc.weaken (fun _ _ _ _ => trivial)⟩⟩ rfl rfl hl.1 rfl (lv_room (Nat.le_of_ble_eq_true rfl)) dX10_type_19 ⟨(Nat.le_of_ble_eq_true rfl), (Nat.le_of_ble_eq_true rfl)⟩) hS (fun q _ h => hFc q h) hFc (fun r_433 u t H1 locs ht hvm hw hB hz1 hk1 hS => ?_)
  obtain ⟨hP1, hK1, hD1⟩ := hB
  rw [ht] at hP1
  have hK1 := va_K.moved hvm.symm hK1
  obtain ⟨hP, hD⟩ := va_join (wr := [(a, .inr (4, [.int m0, .ref ed, .int 0]))]) (w1 := [(h0, .inr (15, [v0, v1, v2, v3, .ref a, .int 0]))]) hP hD [0] [1] rfl rfl (by decide) (by decide) hk1 hFc hP1 hD1
  have hK := (hK.sub (tys' := []) [] rfl).app hK1
  generalize H1 = H at hP hS ⊢
  have hP : va_P (dC, dI) vwCl [(a, .inr (4, [.int m0, .ref ed, .int 0])), (h0, .inr (15, [v0, v1, v2, v3, .ref a, .int 0]))] H := hP
  have hD : va_D A [(a, .inr (4, [.int m0, .ref ed, .int 0])), (h0, .inr (15, [v0, v1, v2, v3, .ref a, .int 0]))] := hD
  have hK : va_K (dC, dI) vwCl [] s := hK
  refine W.widen (k := 0) (n := 0) (Nat.le_of_ble_eq_true rfl) (Nat.le_of_ble_eq_true rfl) ?_
  have hw : r_433 = 0 := hw
  subst hw
  refine lv_if_ne (tgt := 50) hx hb dX10_type_22 (by decide) (fun c_434 => absurd (by decide) c_434) (fun c_434 => ?_)
  refine lv_aload_n hx hb dX10_type_25 rfl (lv_at hl 0 rfl) ?_
  refine lv_aload_n hx hb dX10_type_26 rfl (lv_at hl 0 rfl) ?_
  refine va_get (D := (dC, dI)) (ci := 15) (v := .ref a) (C := RX10) (T := TX10) (N := 6) hx hb hts inX10 hown hK hP 1 rfl rfl 4 (by decide) (hts _ q1229) (fun _ h9 => h9) rfl dX10_type_27 ?_
  have hPc := hP.sub (ws' := [(a, .inr (4, [.int m0, .ref ed, .int 0]))]) [0] rfl
  have hDc := hD.sub (ws' := [(a, .inr (4, [.int m0, .ref ed, .int 0]))]) [0] (by decide) rfl
  have hKc := hK.sub (tys' := []) [] rfl
  have hFc := va_free (wc := [(a, .inr (4, [.int m0, .ref ed, .int 0]))]) hD hS hA [0] rfl
  refine va_calli (va_runV (As := []) (rest := [.ref h0]) ⟨hx, hb, hml, hown, hts⟩ (m_size l dC dI H.size a (.int m0) (.ref ed) 0) (cwV 0 hts (pw_V q1252 q274 q275 q46 q276) rfl rfl rfl (by decide +kernel) ⟨(Nat.le_of_ble_eq_true rfl), (Nat.le_of_ble_eq_true rfl)⟩) ⟨fun a U g mk q => by obtain ⟨q0, q1, qP, qK, qD⟩ := q; exact ⟨q0, q1, qP, va_K.moved (u := U) (U := U.calling g mk a) (Vm.Alike.refl U.vm) qK, qD⟩, va_recv hKc hPc (ci := 4) (q0 := 0) rfl rfl, fun U hU hW => ⟨rfl, by rw [hU], by rw [hU]; exact hPc, va_K.moved hW.alike hKc, hDc.weaken (fun _ _ _ _ => trivial)⟩⟩ rfl rfl hl.1 rfl (lv_room (Nat.le_of_ble_eq_true rfl)) dX10_type_30 ⟨(Nat.le_of_ble_eq_true rfl), (Nat.le_of_ble_eq_true rfl)⟩) hS (fun q _ h => hFc q h) hFc (fun r_435 u t H1 locs ht hvm hw hB hz1 hk1 hS => ?_)
  obtain ⟨hP1, hK1, hD1⟩ := hB
  rw [ht] at hP1
  have hK1 := va_K.moved hvm.symm hK1
  obtain ⟨hP, hD⟩ := va_join (wr := [(h0, .inr (15, [v0, v1, v2, v3, .ref a, .int 0]))]) (w1 := [(a, .inr (4, [.int m0, .ref ed, .int 0]))]) hP hD [0] [1] rfl rfl (by decide) (by decide) hk1 hFc hP1 hD1
  have hK := (hK.sub (tys' := []) [] rfl).app hK1
  generalize H1 = H at hP hS ⊢
  have hP : va_P (dC, dI) vwCl [(h0, .inr (15, [v0, v1, v2, v3, .ref a, .int 0])), (a, .inr (4, [.int m0, .ref ed, .int 0]))] H := hP
  have hD : va_D A [(h0, .inr (15, [v0, v1, v2, v3, .ref a, .int 0])), (a, .inr (4, [.int m0, .ref ed, .int 0]))] := hD
  have hK : va_K (dC, dI) vwCl [] s := hK
  refine W.widen (k := 0) (n := 0) (Nat.le_of_ble_eq_true rfl) (Nat.le_of_ble_eq_true rfl) ?_
  have hw : r_435 = 0 := hw
  subst hw
  refine lv_bipush (v := 24) hx hb dX10_type_33 (by decide) ?_
  refine lv_icmp_ne (tgt := 42) hx hb dX10_type_35 (by decide) (fun c_436 => ?_) (fun c_436 => absurd c_436 (by decide))
  refine lv_iconst (v := 0) hx hb dX10_type_42 (by decide) ?_
  refine lv_iconst (v := 2) hx hb dX10_type_43 (by decide) ?_
  have hPc := hP.sub (ws' := [(h0, .inr (15, [v0, v1, v2, v3, .ref a, .int 0]))]) [0] rfl
  have hDc := hD.sub (ws' := [(h0, .inr (15, [v0, v1, v2, v3, .ref a, .int 0]))]) [0] (by decide) rfl
  have hKc := hK.sub (tys' := []) [] rfl
  have hFc := va_free (wc := [(h0, .inr (15, [v0, v1, v2, v3, .ref a, .int 0]))]) hD hS hA [0] rfl
  refine va_calli (va_runV (As := [.int 0, .int 2]) (rest := []) ⟨hx, hb, hml, hown, hts⟩ (n_isThrown0 l dC dI H.size h0 v0 v1 v2 v3 (.ref a) 0 2) (cwV 2 hts (pw_V q1253 q1255 q19 q49 q1256) rfl rfl rfl (by decide +kernel) ⟨(Nat.le_of_ble_eq_true rfl), (Nat.le_of_ble_eq_true rfl)⟩) ⟨fun a U g mk q => by obtain ⟨q0, q1, qP, qK, qD⟩ := q; exact ⟨q0, q1, qP, va_K.moved (u := U) (U := U.calling g mk a) (Vm.Alike.refl U.vm) qK, qD⟩, va_recv hKc hPc (ci := 15) (q0 := 0) rfl rfl, fun U hU hW => ⟨rfl, by rw [hU], by rw [hU]; exact hPc, va_K.moved hW.alike hKc, hDc.weaken (fun _ _ _ _ => trivial)⟩⟩ rfl rfl hl.1 rfl (lv_room (Nat.le_of_ble_eq_true rfl)) dX10_type_44 ⟨(Nat.le_of_ble_eq_true rfl), (Nat.le_of_ble_eq_true rfl)⟩) hS (fun q _ h => hFc q h) hFc (fun r_437 u t H1 locs ht hvm hw hB hz1 hk1 hS => ?_)
  obtain ⟨hP1, hK1, hD1⟩ := hB
  rw [ht] at hP1
  have hK1 := va_K.moved hvm.symm hK1
  obtain ⟨hP, hD⟩ := va_join (wr := [(a, .inr (4, [.int m0, .ref ed, .int 0]))]) (w1 := [(h0, .inr (15, [v0, v1, v2, v3, .ref a, .int 0]))]) hP hD [0] [1] rfl rfl (by decide) (by decide) hk1 hFc hP1 hD1
  have hK := (hK.sub (tys' := []) [] rfl).app hK1
  generalize H1 = H at hP hS ⊢
  have hP : va_P (dC, dI) vwCl [(a, .inr (4, [.int m0, .ref ed, .int 0])), (h0, .inr (15, [v0, v1, v2, v3, .ref a, .int 0]))] H := hP
  have hD : va_D A [(a, .inr (4, [.int m0, .ref ed, .int 0])), (h0, .inr (15, [v0, v1, v2, v3, .ref a, .int 0]))] := hD
  have hK : va_K (dC, dI) vwCl [] s := hK
  refine W.widen (k := 0) (n := 0) (Nat.le_of_ble_eq_true rfl) (Nat.le_of_ble_eq_true rfl) ?_
  have hw : r_437 = 0 := hw
  subst hw
  refine lv_if_eq (tgt := 52) hx hb dX10_type_47 (by decide) (fun c_438 => ?_) (fun c_438 => absurd (by decide) c_438)
  refine lv_aload_n hx hb dX10_type_52 rfl (lv_at hl 0 rfl) ?_
  refine va_get (D := (dC, dI)) (ci := 15) (v := .ref a) (C := RX10) (T := TX10) (N := 6) hx hb hts inX10 hown hK hP 1 rfl rfl 4 (by decide) (hts _ q1229) (fun _ h9 => h9) rfl dX10_type_53 ?_
  refine lv_iload_n hx hb dX10_type_56 rfl (lv_at hl 1 rfl) ?_
  have hPc := hP.sub (ws' := [(a, .inr (4, [.int m0, .ref ed, .int 0]))]) [0] rfl
  have hDc := hD.sub (ws' := [(a, .inr (4, [.int m0, .ref ed, .int 0]))]) [0] (by decide) rfl
  have hKc := hK.sub (tys' := []) [] rfl
  have hFc := va_free (wc := [(a, .inr (4, [.int m0, .ref ed, .int 0]))]) hD hS hA [0] rfl
  refine va_callr (va_runS (As := [.int p0]) (rest := [.ref a]) ⟨hx, hb, hml, hown, hts⟩ (n_valueOf l dC dI H.size ed a (.int m0) (.ref ed) (.int 0) p0) (va_cwS 1 hts (pw_S q1970 q1971 q78 q1972) rfl rfl rfl (by decide +kernel) ⟨(Nat.le_of_ble_eq_true rfl), (Nat.le_of_ble_eq_true rfl)⟩) ⟨fun a U g mk q => by obtain ⟨q0, q1, qP, qK, qD, qZ⟩ := q; exact ⟨q0, q1, qP, va_K.moved (u := U) (U := U.calling g mk a) (Vm.Alike.refl U.vm) qK, qD, qZ.same rfl⟩, fun U hU hW => ⟨rfl, by rw [hU], by rw [hU]; exact hPc, va_K.moved hW.alike hKc, hDc.weaken (fun _ _ _ _ => trivial), hZ.call hS hFc hU hW⟩⟩ rfl rfl hl.1 rfl (lv_room (Nat.le_of_ble_eq_true rfl)) dX10_type_57 ⟨(Nat.le_of_ble_eq_true rfl), (Nat.le_of_ble_eq_true rfl)⟩) hS (fun q _ h => hFc q h) hFc (fun u r_439 t H1 locs ht hvm hw hB hz1 hk1 hS => ?_)
  obtain ⟨⟨hAny, hNe⟩, hP1, hK1, hD1⟩ := hB
  rw [ht] at hP1 hAny
  have hK1 := va_K.moved hvm.symm hK1
  obtain ⟨hP, hD⟩ := va_join (wr := [(h0, .inr (15, [v0, v1, v2, v3, .ref a, .int 0]))]) (w1 := [(a, .inr (4, [.int m0, .ref ed, .int 0]))]) hP hD [0] [1] rfl rfl (by decide) (by decide) hk1 hFc hP1 hD1
  have hK := (hK.sub (tys' := []) [] rfl).app hK1
  have hAny := pe_mv hvm.symm hAny
  generalize H1 = H at hP hS hAny ⊢
  have hP : va_P (dC, dI) vwCl [(h0, .inr (15, [v0, v1, v2, v3, .ref a, .int 0])), (a, .inr (4, [.int m0, .ref ed, .int 0]))] H := hP
  have hD : va_D A [(h0, .inr (15, [v0, v1, v2, v3, .ref a, .int 0])), (a, .inr (4, [.int m0, .ref ed, .int 0]))] := hD
  have hK : va_K (dC, dI) vwCl [] s := hK
  refine W.widen (k := 1) (n := 1) (Nat.le_of_ble_eq_true rfl) (Nat.le_of_ble_eq_true rfl) ?_
  have hPc := hP.sub (ws' := [(a, .inr (4, [.int m0, .ref ed, .int 0]))]) [1] rfl
  have hDc := hD.sub (ws' := [(a, .inr (4, [.int m0, .ref ed, .int 0]))]) [1] (by decide) rfl
  have hKc := hK.sub (tys' := []) [] rfl
  have hFc := va_free (wc := [(a, .inr (4, [.int m0, .ref ed, .int 0]))]) hD hS hA [1] rfl
  have hEk := pe_box (x := .inr (4, [.int m0, .ref ed, .int 0])) hAny hNe
  refine va_calli (va_runV (As := [.ref r_439]) (rest := []) ⟨hx, hb, hml, hown, hts⟩ (m_add l dC dI H.size ed a r_439 m0) (cwV 1 hts (pw_V q1290 q432 q433 q46 q434) rfl rfl rfl (by decide +kernel) ⟨(Nat.le_of_ble_eq_true rfl), (Nat.le_of_ble_eq_true rfl)⟩) ⟨fun a U g mk q => by obtain ⟨q0, q1, qP, qK, qD, qZ, qE⟩ := q; exact ⟨q0, q1, qP, va_K.moved (u := U) (U := U.calling g mk a) (Vm.Alike.refl U.vm) qK, qD, qZ.same rfl, qE.same rfl⟩, va_recv hKc hPc (ci := 4) (q0 := 0) rfl rfl, fun U hU hW => ⟨rfl, by rw [hU], by rw [hU]; exact hPc, va_K.moved hW.alike hKc, hDc.weaken (fun _ _ _ _ => trivial), hZ.call hS hFc hU hW, (hEk.warm hW).heap hU⟩⟩ rfl rfl hl.1 rfl (lv_room (Nat.le_of_ble_eq_true rfl)) dX10_type_60 ⟨(Nat.le_of_ble_eq_true rfl), (Nat.le_of_ble_eq_true rfl)⟩) hS (fun q _ h => hFc q h) hFc (fun r_440 u t H1 locs ht hvm hw hB hz1 hk1 hS => ?_)
  obtain ⟨qa_441, hP1, hK1, hD1⟩ := hB
  rw [ht] at hP1
  have hK1 := va_K.moved hvm.symm hK1
  obtain ⟨hP, hD⟩ := va_join (wr := [(h0, .inr (15, [v0, v1, v2, v3, .ref a, .int 0]))]) (w1 := [(a, .inr (4, [.int (m0 + 1), .ref qa_441, .int 1]))]) hP hD [1] [0] rfl rfl (by decide) (by decide) hk1 hFc hP1 hD1
  have hK := (hK.sub (tys' := []) [] rfl).app hK1
  generalize H1 = H at hP hS ⊢
  have hP : va_P (dC, dI) vwCl [(h0, .inr (15, [v0, v1, v2, v3, .ref a, .int 0])), (a, .inr (4, [.int (m0 + 1), .ref qa_441, .int 1]))] H := hP
  have hD : va_D A [(h0, .inr (15, [v0, v1, v2, v3, .ref a, .int 0])), (a, .inr (4, [.int (m0 + 1), .ref qa_441, .int 1]))] := hD
  have hK : va_K (dC, dI) vwCl [] s := hK
  refine W.widen (k := 2) (n := 11) (Nat.le_of_ble_eq_true rfl) (Nat.le_of_ble_eq_true rfl) ?_
  have hw : r_440 = 1 := hw
  subst hw
  refine lv_pop hx hb dX10_type_63 rfl ?_
  refine lv_aload_n hx hb dX10_type_64 rfl (lv_at hl 0 rfl) ?_
  refine va_get (D := (dC, dI)) (ci := 15) (v := .ref a) (C := RX10) (T := TX10) (N := 6) hx hb hts inX10 hown hK hP 0 rfl rfl 4 (by decide) (hts _ q1229) (fun _ h9 => h9) rfl dX10_type_65 ?_
  have hPc := hP.sub (ws' := [(a, .inr (4, [.int (m0 + 1), .ref qa_441, .int 1]))]) [1] rfl
  have hDc := hD.sub (ws' := [(a, .inr (4, [.int (m0 + 1), .ref qa_441, .int 1]))]) [1] (by decide) rfl
  have hKc := hK.sub (tys' := []) [] rfl
  have hFc := va_free (wc := [(a, .inr (4, [.int (m0 + 1), .ref qa_441, .int 1]))]) hD hS hA [1] rfl
  refine va_calli (va_runV (As := []) (rest := []) ⟨hx, hb, hml, hown, hts⟩ (m_size l dC dI H.size a (.int (m0 + 1)) (.ref qa_441) 1) (cwV 0 hts (pw_V q1252 q274 q275 q46 q276) rfl rfl rfl (by decide +kernel) ⟨(Nat.le_of_ble_eq_true rfl), (Nat.le_of_ble_eq_true rfl)⟩) ⟨fun a U g mk q => by obtain ⟨q0, q1, qP, qK, qD⟩ := q; exact ⟨q0, q1, qP, va_K.moved (u := U) (U := U.calling g mk a) (Vm.Alike.refl U.vm) qK, qD⟩, va_recv hKc hPc (ci := 4) (q0 := 0) rfl rfl, fun U hU hW => ⟨rfl, by rw [hU], by rw [hU]; exact hPc, va_K.moved hW.alike hKc, hDc.weaken (fun _ _ _ _ => trivial)⟩⟩ rfl rfl hl.1 rfl (lv_room (Nat.le_of_ble_eq_true rfl)) dX10_type_68 ⟨(Nat.le_of_ble_eq_true rfl), (Nat.le_of_ble_eq_true rfl)⟩) hS (fun q _ h => hFc q h) hFc (fun r_442 u t H1 locs ht hvm hw hB hz1 hk1 hS => ?_)
  obtain ⟨hP1, hK1, hD1⟩ := hB
  rw [ht] at hP1
  have hK1 := va_K.moved hvm.symm hK1
  obtain ⟨hP, hD⟩ := va_join (wr := [(h0, .inr (15, [v0, v1, v2, v3, .ref a, .int 0]))]) (w1 := [(a, .inr (4, [.int (m0 + 1), .ref qa_441, .int 1]))]) hP hD [1] [0] rfl rfl (by decide) (by decide) hk1 hFc hP1 hD1
  have hK := (hK.sub (tys' := []) [] rfl).app hK1
  generalize H1 = H at hP hS ⊢
  have hP : va_P (dC, dI) vwCl [(h0, .inr (15, [v0, v1, v2, v3, .ref a, .int 0])), (a, .inr (4, [.int (m0 + 1), .ref qa_441, .int 1]))] H := hP
  have hD : va_D A [(h0, .inr (15, [v0, v1, v2, v3, .ref a, .int 0])), (a, .inr (4, [.int (m0 + 1), .ref qa_441, .int 1]))] := hD
  have hK : va_K (dC, dI) vwCl [] s := hK
  refine W.widen (k := 2) (n := 11) (Nat.le_of_ble_eq_true rfl) (Nat.le_of_ble_eq_true rfl) ?_
  have hw : r_442 = 1 := hw
  subst hw
  have hP9 := hP.sub (ws' := [(h0, .inr (15, [v0, v1, v2, v3, .ref a, .int 0])), (a, .inr (4, [.int (m0 + 1), .ref qa_441, .int 1]))]) [0, 1] rfl
  have hD9 := hD.sub (ws' := [(h0, .inr (15, [v0, v1, v2, v3, .ref a, .int 0])), (a, .inr (4, [.int (m0 + 1), .ref qa_441, .int 1]))]) [0, 1] (by decide) rfl
  have hK9 := hK.sub (tys' := []) [] rfl
  refine W.widen (k := 2) (n := 11) (Nat.le_of_ble_eq_true rfl) (Nat.le_of_ble_eq_true rfl) ?_
  exact W.iret (v := 1) hx hb hr (fun t ht hW => ⟨⟨1, (), rfl, rfl, ⟨qa_441, by rw [ht]; exact hP9, va_K.moved hW.alike hK9, hD9⟩⟩, hS.F ht⟩) hS.2.2 dX10_type_71
set_option maxHeartbeats 4000000 in
set_option maxRecDepth 100000 in
theorem n_fill (l : Launch) (dC : Nat → ClassId) (dI : Nat → Nat → Nat) (sz : Nat) (a : Nat) (cT : ClassId) (f : Nat → Int32) (v : Int32) : Met l yJ7_fill_53178 (pw_ws yJ7_fill_53178 cJ7_fill_53178 4 none) ({ frames := 1, cells := 0, slots := 0, locals := 20 } : Room) (va_Pc [.ref a, .int v] (fun U => U.heap.size = sz ∧ va_P (dC, dI) vwCl [(a, .inl (cT, 8, .inl f))] U.heap ∧ va_K (dC, dI) vwCl [(cT, .int)] U ∧ va_D (fun _ => True) [(a, .inl (cT, 8, .inl f))])) (va_Qv (fun (_ : Unit) => True) (fun (_ : Unit) (t : State) => ∃ (f2 : Nat → Int32), va_P (dC, dI) vwCl [(a, .inl (cT, 8, .inl f2))] t.heap ∧ va_K (dC, dI) vwCl [(cT, .int)] t ∧ va_D (va_A [(a, .inl (cT, 8, .inl f))] sz) [(a, .inl (cT, 8, .inl f2))]) (va_A [(a, .inl (cT, 8, .inl f))] sz)) 0 0 (va_A [(a, .inl (cT, 8, .inl f))] sz) := by
  refine Met.ofW (cc := cJ7_fill_53178) (maxL := 4) (ret := none) (by decide) rfl ?_
  intro p e s m args below meth c s₁ B hml hv
  obtain ⟨rfl, hsz, hP, hK, hD0⟩ := hv
  have hx := B.exec
  have hb := B.bytes
  have hr := B.returns
  have hts0 := atoms_spec (ws := (pw_ws yJ7_fill_53178 cJ7_fill_53178 4 none)) B.pre
  have hts : ∀ w ∈ pw_all, w.before _ s = true := fun w h => hts0 w (List.mem_cons_of_mem _ h)
  have hown : s.vm.findClass RJ7 = some m.cls := findClass_of_methodNamed B.named
  have hlocks := B.notSynchronized
  subst hsz
  have hD := hD0.self (sz := s.heap.size)
  generalize hAe : va_A [(a, .inl (cT, 8, .inl f))] s.heap.size = A at hD ⊢
  have hA : ∀ q : Nat, s.heap.size ≤ q → A q := fun q h => by rw [← hAe]; exact Or.inr h
  have hS : va_S A s.heap s.heap [] := va_S.rf
  have hP : va_P (dC, dI) vwCl [(a, .inl (cT, 8, .inl f))] s.heap := hP
  have hl := lv_entry ([.ref a, .int v]) (n := 4) (Nat.le_of_ble_eq_true rfl)
  rw [lg_entry_eq]
  generalize (lg_sl ([.ref a, .int v]) ++ List.replicate (4 - (lg_sl ([.ref a, .int v])).length) Slot.unset).toArray = ls at hl ⊢
  have hl : lv_has ls 4 [(0, .ref a), (1, .int v)] := hl
  skip
  refine lv_iconst (v := 0) hx hb dJ7_fill_53178_0 (by decide) ?_
  refine lv_istore_n (lv' := [(2, .int 0), (0, .ref a), (1, .int v)]) hx hb dJ7_fill_53178_1 rfl hl (by decide) rfl (fun ls hl => ?_)
  refine lv_aload_n hx hb dJ7_fill_53178_2 rfl (lv_at hl 1 rfl) ?_
  refine va_alen (v := 8) hx hb hK hP 0 0 rfl rfl rfl dJ7_fill_53178_3 ?_
  refine lv_istore_n (lv' := [(3, .int 8), (2, .int 0), (0, .ref a), (1, .int v)]) hx hb dJ7_fill_53178_4 rfl hl (by decide) rfl (fun ls hl => ?_)
  refine lv_iload_n hx hb dJ7_fill_53178_5 rfl (lv_at hl 1 rfl) ?_
  refine lv_iload_n hx hb dJ7_fill_53178_6 rfl (lv_at hl 0 rfl) ?_
  refine lv_icmp_ge (tgt := 20) hx hb dJ7_fill_53178_7 (by decide) (fun c_443 => absurd c_443 (by decide)) (fun c_443 => ?_)
  refine lv_aload_n hx hb dJ7_fill_53178_10 rfl (lv_at hl 2 rfl) ?_
  refine lv_iload_n hx hb dJ7_fill_53178_11 rfl (lv_at hl 1 rfl) ?_
  refine lv_iload_n hx hb dJ7_fill_53178_12 rfl (lv_at hl 3 rfl) ?_
  refine va_iast hx hb hK hP hD hS 0 0 rfl rfl (by unfold vp_in; decide) dJ7_fill_53178_13 (fun H locs hP hD hS => ?_)
  have hP : va_P (dC, dI) vwCl [(a, .inl (cT, 8, .inl (upd f (0 : Int32).toNatClampNeg v)))] H := hP
  have hD : va_D A [(a, .inl (cT, 8, .inl (upd f (0 : Int32).toNatClampNeg v)))] := hD
  generalize (upd f (0 : Int32).toNatClampNeg v) = f_444 at hP hD
  refine lv_iinc (v := 1) (lv' := [(2, .int 1), (3, .int 8), (0, .ref a), (1, .int v)]) hx hb dJ7_fill_53178_14 hl (k := 1) rfl (by decide) (by decide) rfl (fun ls hl => ?_)
  refine lv_goto (tgt := 5) hx hb dJ7_fill_53178_17 (by decide) ?_
  refine lv_iload_n hx hb dJ7_fill_53178_5 rfl (lv_at hl 0 rfl) ?_
  refine lv_iload_n hx hb dJ7_fill_53178_6 rfl (lv_at hl 1 rfl) ?_
  refine lv_icmp_ge (tgt := 20) hx hb dJ7_fill_53178_7 (by decide) (fun c_445 => absurd c_445 (by decide)) (fun c_445 => ?_)
  refine lv_aload_n hx hb dJ7_fill_53178_10 rfl (lv_at hl 2 rfl) ?_
  refine lv_iload_n hx hb dJ7_fill_53178_11 rfl (lv_at hl 0 rfl) ?_
  refine lv_iload_n hx hb dJ7_fill_53178_12 rfl (lv_at hl 3 rfl) ?_
  refine va_iast hx hb hK hP hD hS 0 0 rfl rfl (by unfold vp_in; decide) dJ7_fill_53178_13 (fun H locs hP hD hS => ?_)
  have hP : va_P (dC, dI) vwCl [(a, .inl (cT, 8, .inl (upd f_444 (1 : Int32).toNatClampNeg v)))] H := hP
  have hD : va_D A [(a, .inl (cT, 8, .inl (upd f_444 (1 : Int32).toNatClampNeg v)))] := hD
  generalize (upd f_444 (1 : Int32).toNatClampNeg v) = f_446 at hP hD
  refine lv_iinc (v := 2) (lv' := [(2, .int 2), (3, .int 8), (0, .ref a), (1, .int v)]) hx hb dJ7_fill_53178_14 hl (k := 0) rfl (by decide) (by decide) rfl (fun ls hl => ?_)
  refine lv_goto (tgt := 5) hx hb dJ7_fill_53178_17 (by decide) ?_
  refine lv_iload_n hx hb dJ7_fill_53178_5 rfl (lv_at hl 0 rfl) ?_
  refine lv_iload_n hx hb dJ7_fill_53178_6 rfl (lv_at hl 1 rfl) ?_
  refine lv_icmp_ge (tgt := 20) hx hb dJ7_fill_53178_7 (by decide) (fun c_447 => absurd c_447 (by decide)) (fun c_447 => ?_)
  refine lv_aload_n hx hb dJ7_fill_53178_10 rfl (lv_at hl 2 rfl) ?_
  refine lv_iload_n hx hb dJ7_fill_53178_11 rfl (lv_at hl 0 rfl) ?_
  refine lv_iload_n hx hb dJ7_fill_53178_12 rfl (lv_at hl 3 rfl) ?_
  refine va_iast hx hb hK hP hD hS 0 0 rfl rfl (by unfold vp_in; decide) dJ7_fill_53178_13 (fun H locs hP hD hS => ?_)
  have hP : va_P (dC, dI) vwCl [(a, .inl (cT, 8, .inl (upd f_446 (2 : Int32).toNatClampNeg v)))] H := hP
  have hD : va_D A [(a, .inl (cT, 8, .inl (upd f_446 (2 : Int32).toNatClampNeg v)))] := hD
  generalize (upd f_446 (2 : Int32).toNatClampNeg v) = f_448 at hP hD
  refine lv_iinc (v := 3) (lv' := [(2, .int 3), (3, .int 8), (0, .ref a), (1, .int v)]) hx hb dJ7_fill_53178_14 hl (k := 0) rfl (by decide) (by decide) rfl (fun ls hl => ?_)
  refine lv_goto (tgt := 5) hx hb dJ7_fill_53178_17 (by decide) ?_
  refine lv_iload_n hx hb dJ7_fill_53178_5 rfl (lv_at hl 0 rfl) ?_
  refine lv_iload_n hx hb dJ7_fill_53178_6 rfl (lv_at hl 1 rfl) ?_
  refine lv_icmp_ge (tgt := 20) hx hb dJ7_fill_53178_7 (by decide) (fun c_449 => absurd c_449 (by decide)) (fun c_449 => ?_)
  refine lv_aload_n hx hb dJ7_fill_53178_10 rfl (lv_at hl 2 rfl) ?_
  refine lv_iload_n hx hb dJ7_fill_53178_11 rfl (lv_at hl 0 rfl) ?_
  refine lv_iload_n hx hb dJ7_fill_53178_12 rfl (lv_at hl 3 rfl) ?_
  refine va_iast hx hb hK hP hD hS 0 0 rfl rfl (by unfold vp_in; decide) dJ7_fill_53178_13 (fun H locs hP hD hS => ?_)
  have hP : va_P (dC, dI) vwCl [(a, .inl (cT, 8, .inl (upd f_448 (3 : Int32).toNatClampNeg v)))] H := hP
  have hD : va_D A [(a, .inl (cT, 8, .inl (upd f_448 (3 : Int32).toNatClampNeg v)))] := hD
  generalize (upd f_448 (3 : Int32).toNatClampNeg v) = f_450 at hP hD
  refine lv_iinc (v := 4) (lv' := [(2, .int 4), (3, .int 8), (0, .ref a), (1, .int v)]) hx hb dJ7_fill_53178_14 hl (k := 0) rfl (by decide) (by decide) rfl (fun ls hl => ?_)
  refine lv_goto (tgt := 5) hx hb dJ7_fill_53178_17 (by decide) ?_
  refine lv_iload_n hx hb dJ7_fill_53178_5 rfl (lv_at hl 0 rfl) ?_
  refine lv_iload_n hx hb dJ7_fill_53178_6 rfl (lv_at hl 1 rfl) ?_
  refine lv_icmp_ge (tgt := 20) hx hb dJ7_fill_53178_7 (by decide) (fun c_451 => absurd c_451 (by decide)) (fun c_451 => ?_)
  refine lv_aload_n hx hb dJ7_fill_53178_10 rfl (lv_at hl 2 rfl) ?_
  refine lv_iload_n hx hb dJ7_fill_53178_11 rfl (lv_at hl 0 rfl) ?_
  refine lv_iload_n hx hb dJ7_fill_53178_12 rfl (lv_at hl 3 rfl) ?_
  refine va_iast hx hb hK hP hD hS 0 0 rfl rfl (by unfold vp_in; decide) dJ7_fill_53178_13 (fun H locs hP hD hS => ?_)
  have hP : va_P (dC, dI) vwCl [(a, .inl (cT, 8, .inl (upd f_450 (4 : Int32).toNatClampNeg v)))] H := hP
  have hD : va_D A [(a, .inl (cT, 8, .inl (upd f_450 (4 : Int32).toNatClampNeg v)))] := hD
  generalize (upd f_450 (4 : Int32).toNatClampNeg v) = f_452 at hP hD
  refine lv_iinc (v := 5) (lv' := [(2, .int 5), (3, .int 8), (0, .ref a), (1, .int v)]) hx hb dJ7_fill_53178_14 hl (k := 0) rfl (by decide) (by decide) rfl (fun ls hl => ?_)
  refine lv_goto (tgt := 5) hx hb dJ7_fill_53178_17 (by decide) ?_
  refine lv_iload_n hx hb dJ7_fill_53178_5 rfl (lv_at hl 0 rfl) ?_
  refine lv_iload_n hx hb dJ7_fill_53178_6 rfl (lv_at hl 1 rfl) ?_
  refine lv_icmp_ge (tgt := 20) hx hb dJ7_fill_53178_7 (by decide) (fun c_453 => absurd c_453 (by decide)) (fun c_453 => ?_)
  refine lv_aload_n hx hb dJ7_fill_53178_10 rfl (lv_at hl 2 rfl) ?_
  refine lv_iload_n hx hb dJ7_fill_53178_11 rfl (lv_at hl 0 rfl) ?_
  refine lv_iload_n hx hb dJ7_fill_53178_12 rfl (lv_at hl 3 rfl) ?_
  refine va_iast hx hb hK hP hD hS 0 0 rfl rfl (by unfold vp_in; decide) dJ7_fill_53178_13 (fun H locs hP hD hS => ?_)
  have hP : va_P (dC, dI) vwCl [(a, .inl (cT, 8, .inl (upd f_452 (5 : Int32).toNatClampNeg v)))] H := hP
  have hD : va_D A [(a, .inl (cT, 8, .inl (upd f_452 (5 : Int32).toNatClampNeg v)))] := hD
  generalize (upd f_452 (5 : Int32).toNatClampNeg v) = f_454 at hP hD
  refine lv_iinc (v := 6) (lv' := [(2, .int 6), (3, .int 8), (0, .ref a), (1, .int v)]) hx hb dJ7_fill_53178_14 hl (k := 0) rfl (by decide) (by decide) rfl (fun ls hl => ?_)
  refine lv_goto (tgt := 5) hx hb dJ7_fill_53178_17 (by decide) ?_
  refine lv_iload_n hx hb dJ7_fill_53178_5 rfl (lv_at hl 0 rfl) ?_
  refine lv_iload_n hx hb dJ7_fill_53178_6 rfl (lv_at hl 1 rfl) ?_
  refine lv_icmp_ge (tgt := 20) hx hb dJ7_fill_53178_7 (by decide) (fun c_455 => absurd c_455 (by decide)) (fun c_455 => ?_)
  refine lv_aload_n hx hb dJ7_fill_53178_10 rfl (lv_at hl 2 rfl) ?_
  refine lv_iload_n hx hb dJ7_fill_53178_11 rfl (lv_at hl 0 rfl) ?_
  refine lv_iload_n hx hb dJ7_fill_53178_12 rfl (lv_at hl 3 rfl) ?_
  refine va_iast hx hb hK hP hD hS 0 0 rfl rfl (by unfold vp_in; decide) dJ7_fill_53178_13 (fun H locs hP hD hS => ?_)
  have hP : va_P (dC, dI) vwCl [(a, .inl (cT, 8, .inl (upd f_454 (6 : Int32).toNatClampNeg v)))] H := hP
  have hD : va_D A [(a, .inl (cT, 8, .inl (upd f_454 (6 : Int32).toNatClampNeg v)))] := hD
  generalize (upd f_454 (6 : Int32).toNatClampNeg v) = f_456 at hP hD
  refine lv_iinc (v := 7) (lv' := [(2, .int 7), (3, .int 8), (0, .ref a), (1, .int v)]) hx hb dJ7_fill_53178_14 hl (k := 0) rfl (by decide) (by decide) rfl (fun ls hl => ?_)
  refine lv_goto (tgt := 5) hx hb dJ7_fill_53178_17 (by decide) ?_
  refine lv_iload_n hx hb dJ7_fill_53178_5 rfl (lv_at hl 0 rfl) ?_
  refine lv_iload_n hx hb dJ7_fill_53178_6 rfl (lv_at hl 1 rfl) ?_
  refine lv_icmp_ge (tgt := 20) hx hb dJ7_fill_53178_7 (by decide) (fun c_457 => absurd c_457 (by decide)) (fun c_457 => ?_)
  refine lv_aload_n hx hb dJ7_fill_53178_10 rfl (lv_at hl 2 rfl) ?_
  refine lv_iload_n hx hb dJ7_fill_53178_11 rfl (lv_at hl 0 rfl) ?_
  refine lv_iload_n hx hb dJ7_fill_53178_12 rfl (lv_at hl 3 rfl) ?_
  refine va_iast hx hb hK hP hD hS 0 0 rfl rfl (by unfold vp_in; decide) dJ7_fill_53178_13 (fun H locs hP hD hS => ?_)
  have hP : va_P (dC, dI) vwCl [(a, .inl (cT, 8, .inl (upd f_456 (7 : Int32).toNatClampNeg v)))] H := hP
  have hD : va_D A [(a, .inl (cT, 8, .inl (upd f_456 (7 : Int32).toNatClampNeg v)))] := hD
  generalize (upd f_456 (7 : Int32).toNatClampNeg v) = f_458 at hP hD
  refine lv_iinc (v := 8) (lv' := [(2, .int 8), (3, .int 8), (0, .ref a), (1, .int v)]) hx hb dJ7_fill_53178_14 hl (k := 0) rfl (by decide) (by decide) rfl (fun ls hl => ?_)
  refine lv_goto (tgt := 5) hx hb dJ7_fill_53178_17 (by decide) ?_
  refine lv_iload_n hx hb dJ7_fill_53178_5 rfl (lv_at hl 0 rfl) ?_
  refine lv_iload_n hx hb dJ7_fill_53178_6 rfl (lv_at hl 1 rfl) ?_
  refine lv_icmp_ge (tgt := 20) hx hb dJ7_fill_53178_7 (by decide) (fun c_459 => ?_) (fun c_459 => absurd (by decide) c_459)
  have hP9 := hP.sub (ws' := [(a, .inl (cT, 8, .inl f_458))]) [0] rfl
  have hD9 := hD.sub (ws' := [(a, .inl (cT, 8, .inl f_458))]) [0] (by decide) rfl
  have hK9 := hK.sub (tys' := [(cT, .int)]) [0] rfl
  refine W.widen (k := 0) (n := 0) (Nat.le_of_ble_eq_true rfl) (Nat.le_of_ble_eq_true rfl) ?_
  exact W.vret hx hb hr (fun t ht hW => ⟨⟨(), rfl, trivial, ⟨f_458, by rw [ht]; exact hP9, va_K.moved hW.alike hK9, hD9⟩⟩, hS.F ht⟩) hS.2.2 dJ7_fill_53178_20
set_option maxHeartbeats 4000000 in
set_option maxRecDepth 100000 in
theorem z_addSpecification (l : Launch) (dC : Nat → ClassId) (dI : Nat → Nat → Nat) (sz : Nat) (ed : Nat) (h0 : Nat) (a : Nat) (v0 : Value) (v1 : Value) (v3 : Value) (v4 : Value) (cT : ClassId) (th : Int32) (m0 : Int32) : Met l yX10_addSpecification (pw_ws yX10_addSpecification cX10_addSpecification 2 (some .int)) ({ frames := 5, cells := 4, slots := 28, locals := 107 } : Room) (va_Pc [.ref h0] (fun U => U.heap.size = sz ∧ va_P (dC, dI) vwCl [(h0, .inr (15, [v0, v1, .ref a, v3, v4, .int th])), (a, .inr (4, [.int m0, .ref ed, .int 0]))] U.heap ∧ va_K (dC, dI) vwCl [(cT, .int)] U ∧ va_D (fun _ => True) [(h0, .inr (15, [v0, v1, .ref a, v3, v4, .int th])), (a, .inr (4, [.int m0, .ref ed, .int 0]))] ∧ pz ed (va_A [(h0, .inr (15, [v0, v1, .ref a, v3, v4, .int th])), (a, .inr (4, [.int m0, .ref ed, .int 0]))] sz) U U.heap)) (va_Qi (fun (r : Int32) (_ : Unit) => r = 0) (fun (_ : Unit) (t : State) => ∃ (qb : Nat), va_P (dC, dI) vwCl [(h0, .inr (15, [v0, v1, .ref a, v3, v4, .int 0])), (a, .inr (4, [.int (m0 + 1), .ref qb, .int 1]))] t.heap ∧ va_K (dC, dI) vwCl [(cT, .int)] t ∧ va_D (va_A [(h0, .inr (15, [v0, v1, .ref a, v3, v4, .int th])), (a, .inr (4, [.int m0, .ref ed, .int 0]))] sz) [(h0, .inr (15, [v0, v1, .ref a, v3, v4, .int 0])), (a, .inr (4, [.int (m0 + 1), .ref qb, .int 1]))]) (va_A [(h0, .inr (15, [v0, v1, .ref a, v3, v4, .int th])), (a, .inr (4, [.int m0, .ref ed, .int 0]))] sz)) 4 28 (va_A [(h0, .inr (15, [v0, v1, .ref a, v3, v4, .int th])), (a, .inr (4, [.int m0, .ref ed, .int 0]))] sz) := by
  refine Met.ofW (cc := cX10_addSpecification) (maxL := 2) (ret := (some .int)) (by decide) rfl ?_
  intro p e s m args below meth c s₁ B hml hv
  obtain ⟨rfl, hsz, hP, hK, hD0, hZ⟩ := hv
  have hx := B.exec
  have hb := B.bytes
  have hr := B.returns
  have hts0 := atoms_spec (ws := (pw_ws yX10_addSpecification cX10_addSpecification 2 (some .int))) B.pre
  have hts : ∀ w ∈ pw_all, w.before _ s = true := fun w h => hts0 w (List.mem_cons_of_mem _ h)
  have hown : s.vm.findClass RX10 = some m.cls := findClass_of_methodNamed B.named
  have hlocks := B.notSynchronized
  subst hsz
  have hD := hD0.self (sz := s.heap.size)
  generalize hAe : va_A [(h0, .inr (15, [v0, v1, .ref a, v3, v4, .int th])), (a, .inr (4, [.int m0, .ref ed, .int 0]))] s.heap.size = A at hD hZ ⊢
  have hA : ∀ q : Nat, s.heap.size ≤ q → A q := fun q h => by rw [← hAe]; exact Or.inr h
  have hS : va_S A s.heap s.heap [] := va_S.rf
  have hP : va_P (dC, dI) vwCl [(h0, .inr (15, [v0, v1, .ref a, v3, v4, .int th])), (a, .inr (4, [.int m0, .ref ed, .int 0]))] s.heap := hP
  have hl := lv_entry ([.ref h0]) (n := 2) (Nat.le_of_ble_eq_true rfl)
  rw [lg_entry_eq]
  generalize (lg_sl ([.ref h0]) ++ List.replicate (2 - (lg_sl ([.ref h0])).length) Slot.unset).toArray = ls at hl ⊢
  have hl : lv_has ls 2 [(0, .ref h0)] := hl
  skip
  refine lv_aload_n hx hb dX10_addSpecification_0 rfl (lv_at hl 0 rfl) ?_
  refine lv_aload_n hx hb dX10_addSpecification_1 rfl (lv_at hl 0 rfl) ?_
  refine va_get (D := (dC, dI)) (ci := 15) (v := .ref a) (C := RX10) (T := TX10) (N := 6) hx hb hts inX10 hown hK hP 0 rfl rfl 2 (by decide) (hts _ q1227) (fun _ h9 => h9) rfl dX10_addSpecification_2 ?_
  have hPc := hP.sub (ws' := [(a, .inr (4, [.int m0, .ref ed, .int 0]))]) [1] rfl
  have hDc := hD.sub (ws' := [(a, .inr (4, [.int m0, .ref ed, .int 0]))]) [1] (by decide) rfl
  have hKc := hK.sub (tys' := []) [] rfl
  have hFc := va_free (wc := [(a, .inr (4, [.int m0, .ref ed, .int 0]))]) hD hS hA [1] rfl
  refine va_calli (va_runV (As := []) (rest := [.ref h0]) ⟨hx, hb, hml, hown, hts⟩ (m_size l dC dI s.heap.size a (.int m0) (.ref ed) 0) (cwV 0 hts (pw_V q1252 q274 q275 q46 q276) rfl rfl rfl (by decide +kernel) ⟨(Nat.le_of_ble_eq_true rfl), (Nat.le_of_ble_eq_true rfl)⟩) ⟨fun a U g mk q => by obtain ⟨q0, q1, qP, qK, qD⟩ := q; exact ⟨q0, q1, qP, va_K.moved (u := U) (U := U.calling g mk a) (Vm.Alike.refl U.vm) qK, qD⟩, va_recv hKc hPc (ci := 4) (q0 := 0) rfl rfl, fun U hU hW => ⟨rfl, by rw [hU], by rw [hU]; exact hPc, va_K.moved hW.alike hKc, hDc.weaken (fun _ _ _ _ => trivial)⟩⟩ rfl rfl hl.1 rfl (lv_room (Nat.le_of_ble_eq_true rfl)) dX10_addSpecification_5 ⟨(Nat.le_of_ble_eq_true rfl), (Nat.le_of_ble_eq_true rfl)⟩) hS (fun q _ h => hFc q h) hFc (fun r_460 u t H1 locs ht hvm hw hB hz1 hk1 hS => ?_)
  obtain ⟨hP1, hK1, hD1⟩ := hB
  rw [ht] at hP1
  have hK1 := va_K.moved hvm.symm hK1
  obtain ⟨hP, hD⟩ := va_join (wr := [(h0, .inr (15, [v0, v1, .ref a, v3, v4, .int th]))]) (w1 := [(a, .inr (4, [.int m0, .ref ed, .int 0]))]) hP hD [1] [0] rfl rfl (by decide) (by decide) hk1 hFc hP1 hD1
  have hK := (hK.sub (tys' := [(cT, .int)]) [0] rfl).app hK1
  generalize H1 = H at hP hS ⊢
  have hP : va_P (dC, dI) vwCl [(h0, .inr (15, [v0, v1, .ref a, v3, v4, .int th])), (a, .inr (4, [.int m0, .ref ed, .int 0]))] H := hP
  have hD : va_D A [(h0, .inr (15, [v0, v1, .ref a, v3, v4, .int th])), (a, .inr (4, [.int m0, .ref ed, .int 0]))] := hD
  have hK : va_K (dC, dI) vwCl [(cT, .int)] s := hK
  refine W.widen (k := 0) (n := 0) (Nat.le_of_ble_eq_true rfl) (Nat.le_of_ble_eq_true rfl) ?_
  have hw : r_460 = 0 := hw
  subst hw
  refine lv_iconst (v := 4) hx hb dX10_addSpecification_8 (by decide) ?_
  refine lv_icmp_ne (tgt := 16) hx hb dX10_addSpecification_9 (by decide) (fun c_461 => ?_) (fun c_461 => absurd c_461 (by decide))
  refine lv_iconst (v := 0) hx hb dX10_addSpecification_16 (by decide) ?_
  refine lv_iconst (v := 1) hx hb dX10_addSpecification_17 (by decide) ?_
  have hPc := hP.sub (ws' := [(h0, .inr (15, [v0, v1, .ref a, v3, v4, .int th]))]) [0] rfl
  have hDc := hD.sub (ws' := [(h0, .inr (15, [v0, v1, .ref a, v3, v4, .int th]))]) [0] (by decide) rfl
  have hKc := hK.sub (tys' := []) [] rfl
  have hFc := va_free (wc := [(h0, .inr (15, [v0, v1, .ref a, v3, v4, .int th]))]) hD hS hA [0] rfl
  refine va_calli (va_runV (As := [.int 0, .int 1]) (rest := []) ⟨hx, hb, hml, hown, hts⟩ (n_isThrown0 l dC dI H.size h0 v0 v1 (.ref a) v3 v4 th 1) (cwV 2 hts (pw_V q1253 q1255 q19 q49 q1256) rfl rfl rfl (by decide +kernel) ⟨(Nat.le_of_ble_eq_true rfl), (Nat.le_of_ble_eq_true rfl)⟩) ⟨fun a U g mk q => by obtain ⟨q0, q1, qP, qK, qD⟩ := q; exact ⟨q0, q1, qP, va_K.moved (u := U) (U := U.calling g mk a) (Vm.Alike.refl U.vm) qK, qD⟩, va_recv hKc hPc (ci := 15) (q0 := 0) rfl rfl, fun U hU hW => ⟨rfl, by rw [hU], by rw [hU]; exact hPc, va_K.moved hW.alike hKc, hDc.weaken (fun _ _ _ _ => trivial)⟩⟩ rfl rfl hl.1 rfl (lv_room (Nat.le_of_ble_eq_true rfl)) dX10_addSpecification_18 ⟨(Nat.le_of_ble_eq_true rfl), (Nat.le_of_ble_eq_true rfl)⟩) hS (fun q _ h => hFc q h) hFc (fun r_462 u t H1 locs ht hvm hw hB hz1 hk1 hS => ?_)
  obtain ⟨hP1, hK1, hD1⟩ := hB
  rw [ht] at hP1
  have hK1 := va_K.moved hvm.symm hK1
  obtain ⟨hP, hD⟩ := va_join (wr := [(a, .inr (4, [.int m0, .ref ed, .int 0]))]) (w1 := [(h0, .inr (15, [v0, v1, .ref a, v3, v4, .int 0]))]) hP hD [0] [1] rfl rfl (by decide) (by decide) hk1 hFc hP1 hD1
  have hK := (hK.sub (tys' := [(cT, .int)]) [0] rfl).app hK1
  generalize H1 = H at hP hS ⊢
  have hP : va_P (dC, dI) vwCl [(a, .inr (4, [.int m0, .ref ed, .int 0])), (h0, .inr (15, [v0, v1, .ref a, v3, v4, .int 0]))] H := hP
  have hD : va_D A [(a, .inr (4, [.int m0, .ref ed, .int 0])), (h0, .inr (15, [v0, v1, .ref a, v3, v4, .int 0]))] := hD
  have hK : va_K (dC, dI) vwCl [(cT, .int)] s := hK
  refine W.widen (k := 0) (n := 0) (Nat.le_of_ble_eq_true rfl) (Nat.le_of_ble_eq_true rfl) ?_
  have hw : r_462 = 0 := hw
  subst hw
  refine lv_if_eq (tgt := 26) hx hb dX10_addSpecification_21 (by decide) (fun c_463 => ?_) (fun c_463 => absurd (by decide) c_463)
  refine lv_iconst (v := 2) hx hb dX10_addSpecification_26 (by decide) ?_
  refine lv_bipush (v := 8) hx hb dX10_addSpecification_27 (by decide) ?_
  have hP : va_P (dC, dI) vwCl ([(a, .inr (4, [.int m0, .ref ed, .int 0])), (h0, .inr (15, [v0, v1, .ref a, v3, v4, .int 0]))] ++ va_pl [] (fun _ => .inr (0, []))) H := hP
  have hD : va_D A ([(a, .inr (4, [.int m0, .ref ed, .int 0])), (h0, .inr (15, [v0, v1, .ref a, v3, v4, .int 0]))] ++ va_pl [] (fun _ => .inr (0, []))) := hD
  have hcy : s.vm.findClass (FieldType.array .int).toString = some cT := (hK.2 0 _ rfl).2
  refine va_mna (X := [(a, .inr (4, [.int m0, .ref ed, .int 0])), (h0, .inr (15, [v0, v1, .ref a, v3, v4, .int 0]))]) (L := []) (f := fun _ => .inr (0, [])) (ty := .int) (N' := 2) (K' := 8) (z := (8, .inl (fun _ => 0))) hx hb hown (by rw [show "[" ++ (FieldType.array FieldType.int).toString = "[[I" by decide +kernel]; exact (hts _ q1427)) hZ.over (hts _ q143) hcy hK hP hD hS hA (by decide) (by decide) (by decide) (by decide) (Nat.le_of_ble_eq_true rfl) (Nat.le_of_ble_eq_true rfl) (Nat.le_of_ble_eq_true rfl) rfl rfl (Nat.le_of_ble_eq_true rfl) (Nat.le_of_ble_eq_true rfl) (fun _ => arrV_new _ _ _) dX10_addSpecification_29 (fun q_464 r_465 cA_466 H h_467 h_468 hK hP hD hS => ?_)
  have e_469 : ([(a, .inr (4, [.int m0, .ref ed, .int 0])), (h0, .inr (15, [v0, v1, .ref a, v3, v4, .int 0]))] ++ [(q_464, .inl (cA_466, 2, .inr (.inr (.inr (.inr (fun i => if i < 2 then some (r_465 i) else none))))))]) ++ va_pl ([] ++ (List.range 2).map r_465) (vr_up (fun _ => .inr (0, [])) ((List.range 2).map r_465) (.inl (cT, (8, .inl (fun _ => 0))))) = [(a, .inr (4, [.int m0, .ref ed, .int 0])), (h0, .inr (15, [v0, v1, .ref a, v3, v4, .int 0])), (q_464, .inl (cA_466, 2, .inr (.inr (.inr (.inr (fun i => if i < 2 then some (r_465 i) else none)))))), ((r_465 0), .inl (cT, 8, .inl (fun _ => 0))), ((r_465 1), .inl (cT, 8, .inl (fun _ => 0)))] := by simp [va_pl, vr_up, List.range_succ]
  rw [e_469] at hP hD
  have hP : va_P (dC, dI) vwCl [(a, .inr (4, [.int m0, .ref ed, .int 0])), (h0, .inr (15, [v0, v1, .ref a, v3, v4, .int 0])), (q_464, .inl (cA_466, 2, .inr (.inr (.inr (.inr (fun i => if i < 2 then some (r_465 i) else none)))))), ((r_465 0), .inl (cT, 8, .inl (fun _ => 0))), ((r_465 1), .inl (cT, 8, .inl (fun _ => 0)))] H := hP
  have hD : va_D A [(a, .inr (4, [.int m0, .ref ed, .int 0])), (h0, .inr (15, [v0, v1, .ref a, v3, v4, .int 0])), (q_464, .inl (cA_466, 2, .inr (.inr (.inr (.inr (fun i => if i < 2 then some (r_465 i) else none)))))), ((r_465 0), .inl (cT, 8, .inl (fun _ => 0))), ((r_465 1), .inl (cT, 8, .inl (fun _ => 0)))] := hD
  have hK : va_K (dC, dI) vwCl [(cT, .int), (cA_466, .array .int)] s := hK
  refine W.widen (k := 3) (n := 18) (Nat.le_of_ble_eq_true rfl) (Nat.le_of_ble_eq_true rfl) ?_
  refine lv_astore_n (lv' := [(1, .ref q_464), (0, .ref h0)]) hx hb dX10_addSpecification_33 rfl hl (by decide) rfl (fun ls hl => ?_)
  refine lv_aload_n hx hb dX10_addSpecification_34 rfl (lv_at hl 0 rfl) ?_
  refine lv_iconst (v := 1) hx hb dX10_addSpecification_35 (by decide) ?_
  refine pl_aldq hx hb hK hP 2 1 rfl rfl (by unfold vp_in; decide) dX10_addSpecification_36 ?_
  refine lv_topr (v := .ref (r_465 1)) (by first | rfl | decide | simp [va_rf]) ?_
  refine lv_bipush (v := 10) hx hb dX10_addSpecification_37 (by decide) ?_
  have hPc := hP.sub (ws' := [((r_465 1), .inl (cT, 8, .inl (fun _ => 0)))]) [4] rfl
  have hDc := hD.sub (ws' := [((r_465 1), .inl (cT, 8, .inl (fun _ => 0)))]) [4] (by decide) rfl
  have hKc := hK.sub (tys' := [(cT, .int)]) [0] rfl
  have hFc := va_free (wc := [((r_465 1), .inl (cT, 8, .inl (fun _ => 0)))]) hD hS hA [4] rfl
  refine va_callv (va_runS (As := [.ref (r_465 1), .int 10]) (rest := []) ⟨hx, hb, hml, hown, hts⟩ (n_fill l dC dI H.size (r_465 1) cT (fun _ => 0) 10) (va_cwS 2 hts (pw_S q1429 q1430 q57 q1431) rfl rfl rfl (by decide +kernel) ⟨(Nat.le_of_ble_eq_true rfl), (Nat.le_of_ble_eq_true rfl)⟩) ⟨fun a U g mk q => by obtain ⟨q0, q1, qP, qK, qD⟩ := q; exact ⟨q0, q1, qP, va_K.moved (u := U) (U := U.calling g mk a) (Vm.Alike.refl U.vm) qK, qD⟩, fun U hU hW => ⟨rfl, by rw [hU], by rw [hU]; exact hPc, va_K.moved hW.alike hKc, hDc.weaken (fun _ _ _ _ => trivial)⟩⟩ rfl rfl hl.1 rfl (lv_room (Nat.le_of_ble_eq_true rfl)) dX10_addSpecification_39 ⟨(Nat.le_of_ble_eq_true rfl), (Nat.le_of_ble_eq_true rfl)⟩) hS (fun q _ h => hFc q h) hFc (fun u t H1 locs ht hvm hw hB hz1 hk1 hS => ?_)
  obtain ⟨f2_471, hP1, hK1, hD1⟩ := hB
  rw [ht] at hP1
  have hK1 := va_K.moved hvm.symm hK1
  obtain ⟨hP, hD⟩ := va_join (wr := [(a, .inr (4, [.int m0, .ref ed, .int 0])), (h0, .inr (15, [v0, v1, .ref a, v3, v4, .int 0])), (q_464, .inl (cA_466, 2, .inr (.inr (.inr (.inr (fun i => if i < 2 then some (r_465 i) else none)))))), ((r_465 0), .inl (cT, 8, .inl (fun _ => 0)))]) (w1 := [((r_465 1), .inl (cT, 8, .inl f2_471))]) hP hD [4] [0, 1, 2, 3] rfl rfl (by decide) (by decide) hk1 hFc hP1 hD1
  have hK := (hK.sub (tys' := [(cA_466, .array .int)]) [1] rfl).app hK1
  generalize H1 = H at hP hS ⊢
  have hP : va_P (dC, dI) vwCl [(a, .inr (4, [.int m0, .ref ed, .int 0])), (h0, .inr (15, [v0, v1, .ref a, v3, v4, .int 0])), (q_464, .inl (cA_466, 2, .inr (.inr (.inr (.inr (fun i => if i < 2 then some (r_465 i) else none)))))), ((r_465 0), .inl (cT, 8, .inl (fun _ => 0))), ((r_465 1), .inl (cT, 8, .inl f2_471))] H := hP
  have hD : va_D A [(a, .inr (4, [.int m0, .ref ed, .int 0])), (h0, .inr (15, [v0, v1, .ref a, v3, v4, .int 0])), (q_464, .inl (cA_466, 2, .inr (.inr (.inr (.inr (fun i => if i < 2 then some (r_465 i) else none)))))), ((r_465 0), .inl (cT, 8, .inl (fun _ => 0))), ((r_465 1), .inl (cT, 8, .inl f2_471))] := hD
  have hK : va_K (dC, dI) vwCl [(cA_466, .array .int), (cT, .int)] s := hK
  refine W.widen (k := 3) (n := 18) (Nat.le_of_ble_eq_true rfl) (Nat.le_of_ble_eq_true rfl) ?_
  refine lv_aload_n hx hb dX10_addSpecification_42 rfl (lv_at hl 1 rfl) ?_
  refine va_get (D := (dC, dI)) (ci := 15) (v := .ref a) (C := RX10) (T := TX10) (N := 6) hx hb hts inX10 hown hK hP 1 rfl rfl 2 (by decide) (hts _ q1227) (fun _ h9 => h9) rfl dX10_addSpecification_43 ?_
  refine lv_aload_n hx hb dX10_addSpecification_46 rfl (lv_at hl 0 rfl) ?_
  have hPc := hP.sub (ws' := [(a, .inr (4, [.int m0, .ref ed, .int 0]))]) [0] rfl
  have hDc := hD.sub (ws' := [(a, .inr (4, [.int m0, .ref ed, .int 0]))]) [0] (by decide) rfl
  have hKc := hK.sub (tys' := []) [] rfl
  have hFc := va_free (wc := [(a, .inr (4, [.int m0, .ref ed, .int 0]))]) hD hS hA [0] rfl
  have hEk : pe q_464 (va_A [(a, .inr (4, [.int m0, .ref ed, .int 0]))] H.size) s H := ⟨pe_arr hK hP (i := 2) (t := 0) rfl rfl (hZ.cast (by decide)), pe_ne hP hD (i := 2) rfl [0] (wc := [(a, .inr (4, [.int m0, .ref ed, .int 0]))]) rfl (by decide)⟩
  refine va_calli (va_runV (As := [.ref q_464]) (rest := []) ⟨hx, hb, hml, hown, hts⟩ (m_add l dC dI H.size ed a q_464 m0) (cwV 1 hts (pw_V q1290 q432 q433 q46 q434) rfl rfl rfl (by decide +kernel) ⟨(Nat.le_of_ble_eq_true rfl), (Nat.le_of_ble_eq_true rfl)⟩) ⟨fun a U g mk q => by obtain ⟨q0, q1, qP, qK, qD, qZ, qE⟩ := q; exact ⟨q0, q1, qP, va_K.moved (u := U) (U := U.calling g mk a) (Vm.Alike.refl U.vm) qK, qD, qZ.same rfl, qE.same rfl⟩, va_recv hKc hPc (ci := 4) (q0 := 0) rfl rfl, fun U hU hW => ⟨rfl, by rw [hU], by rw [hU]; exact hPc, va_K.moved hW.alike hKc, hDc.weaken (fun _ _ _ _ => trivial), hZ.call hS hFc hU hW, (hEk.warm hW).heap hU⟩⟩ rfl rfl hl.1 rfl (lv_room (Nat.le_of_ble_eq_true rfl)) dX10_addSpecification_47 ⟨(Nat.le_of_ble_eq_true rfl), (Nat.le_of_ble_eq_true rfl)⟩) hS (fun q _ h => hFc q h) hFc (fun r_472 u t H1 locs ht hvm hw hB hz1 hk1 hS => ?_)
  obtain ⟨qa_473, hP1, hK1, hD1⟩ := hB
  rw [ht] at hP1
  have hK1 := va_K.moved hvm.symm hK1
  obtain ⟨hP, hD⟩ := va_join (wr := [(h0, .inr (15, [v0, v1, .ref a, v3, v4, .int 0])), (q_464, .inl (cA_466, 2, .inr (.inr (.inr (.inr (fun i => if i < 2 then some (r_465 i) else none)))))), ((r_465 0), .inl (cT, 8, .inl (fun _ => 0))), ((r_465 1), .inl (cT, 8, .inl f2_471))]) (w1 := [(a, .inr (4, [.int (m0 + 1), .ref qa_473, .int 1]))]) hP hD [0] [1, 2, 3, 4] rfl rfl (by decide) (by decide) hk1 hFc hP1 hD1
  have hK := (hK.sub (tys' := [(cA_466, .array .int), (cT, .int)]) [0, 1] rfl).app hK1
  generalize H1 = H at hP hS ⊢
  have hP : va_P (dC, dI) vwCl [(h0, .inr (15, [v0, v1, .ref a, v3, v4, .int 0])), (q_464, .inl (cA_466, 2, .inr (.inr (.inr (.inr (fun i => if i < 2 then some (r_465 i) else none)))))), ((r_465 0), .inl (cT, 8, .inl (fun _ => 0))), ((r_465 1), .inl (cT, 8, .inl f2_471)), (a, .inr (4, [.int (m0 + 1), .ref qa_473, .int 1]))] H := hP
  have hD : va_D A [(h0, .inr (15, [v0, v1, .ref a, v3, v4, .int 0])), (q_464, .inl (cA_466, 2, .inr (.inr (.inr (.inr (fun i => if i < 2 then some (r_465 i) else none)))))), ((r_465 0), .inl (cT, 8, .inl (fun _ => 0))), ((r_465 1), .inl (cT, 8, .inl f2_471)), (a, .inr (4, [.int (m0 + 1), .ref qa_473, .int 1]))] := hD
  have hK : va_K (dC, dI) vwCl [(cA_466, .array .int), (cT, .int)] s := hK
  refine W.widen (k := 4) (n := 28) (Nat.le_of_ble_eq_true rfl) (Nat.le_of_ble_eq_true rfl) ?_
  have hw : r_472 = 1 := hw
  subst hw
  refine lv_pop hx hb dX10_addSpecification_50 rfl ?_
  refine lv_aload_n hx hb dX10_addSpecification_51 rfl (lv_at hl 1 rfl) ?_
  refine va_get (D := (dC, dI)) (ci := 15) (v := .ref a) (C := RX10) (T := TX10) (N := 6) hx hb hts inX10 hown hK hP 0 rfl rfl 2 (by decide) (hts _ q1227) (fun _ h9 => h9) rfl dX10_addSpecification_52 ?_
  have hPc := hP.sub (ws' := [(a, .inr (4, [.int (m0 + 1), .ref qa_473, .int 1]))]) [4] rfl
  have hDc := hD.sub (ws' := [(a, .inr (4, [.int (m0 + 1), .ref qa_473, .int 1]))]) [4] (by decide) rfl
  have hKc := hK.sub (tys' := []) [] rfl
  have hFc := va_free (wc := [(a, .inr (4, [.int (m0 + 1), .ref qa_473, .int 1]))]) hD hS hA [4] rfl
  refine va_calli (va_runV (As := []) (rest := []) ⟨hx, hb, hml, hown, hts⟩ (m_size l dC dI H.size a (.int (m0 + 1)) (.ref qa_473) 1) (cwV 0 hts (pw_V q1252 q274 q275 q46 q276) rfl rfl rfl (by decide +kernel) ⟨(Nat.le_of_ble_eq_true rfl), (Nat.le_of_ble_eq_true rfl)⟩) ⟨fun a U g mk q => by obtain ⟨q0, q1, qP, qK, qD⟩ := q; exact ⟨q0, q1, qP, va_K.moved (u := U) (U := U.calling g mk a) (Vm.Alike.refl U.vm) qK, qD⟩, va_recv hKc hPc (ci := 4) (q0 := 0) rfl rfl, fun U hU hW => ⟨rfl, by rw [hU], by rw [hU]; exact hPc, va_K.moved hW.alike hKc, hDc.weaken (fun _ _ _ _ => trivial)⟩⟩ rfl rfl hl.1 rfl (lv_room (Nat.le_of_ble_eq_true rfl)) dX10_addSpecification_55 ⟨(Nat.le_of_ble_eq_true rfl), (Nat.le_of_ble_eq_true rfl)⟩) hS (fun q _ h => hFc q h) hFc (fun r_474 u t H1 locs ht hvm hw hB hz1 hk1 hS => ?_)
  obtain ⟨hP1, hK1, hD1⟩ := hB
  rw [ht] at hP1
  have hK1 := va_K.moved hvm.symm hK1
  obtain ⟨hP, hD⟩ := va_join (wr := [(h0, .inr (15, [v0, v1, .ref a, v3, v4, .int 0])), (q_464, .inl (cA_466, 2, .inr (.inr (.inr (.inr (fun i => if i < 2 then some (r_465 i) else none)))))), ((r_465 0), .inl (cT, 8, .inl (fun _ => 0))), ((r_465 1), .inl (cT, 8, .inl f2_471))]) (w1 := [(a, .inr (4, [.int (m0 + 1), .ref qa_473, .int 1]))]) hP hD [4] [0, 1, 2, 3] rfl rfl (by decide) (by decide) hk1 hFc hP1 hD1
  have hK := (hK.sub (tys' := [(cA_466, .array .int), (cT, .int)]) [0, 1] rfl).app hK1
  generalize H1 = H at hP hS ⊢
  have hP : va_P (dC, dI) vwCl [(h0, .inr (15, [v0, v1, .ref a, v3, v4, .int 0])), (q_464, .inl (cA_466, 2, .inr (.inr (.inr (.inr (fun i => if i < 2 then some (r_465 i) else none)))))), ((r_465 0), .inl (cT, 8, .inl (fun _ => 0))), ((r_465 1), .inl (cT, 8, .inl f2_471)), (a, .inr (4, [.int (m0 + 1), .ref qa_473, .int 1]))] H := hP
  have hD : va_D A [(h0, .inr (15, [v0, v1, .ref a, v3, v4, .int 0])), (q_464, .inl (cA_466, 2, .inr (.inr (.inr (.inr (fun i => if i < 2 then some (r_465 i) else none)))))), ((r_465 0), .inl (cT, 8, .inl (fun _ => 0))), ((r_465 1), .inl (cT, 8, .inl f2_471)), (a, .inr (4, [.int (m0 + 1), .ref qa_473, .int 1]))] := hD
  have hK : va_K (dC, dI) vwCl [(cA_466, .array .int), (cT, .int)] s := hK
  refine W.widen (k := 4) (n := 28) (Nat.le_of_ble_eq_true rfl) (Nat.le_of_ble_eq_true rfl) ?_
  have hw : r_474 = 1 := hw
  subst hw
  refine lv_iconst (v := 1) hx hb dX10_addSpecification_58 (by decide) ?_
  refine lv_isub hx hb dX10_addSpecification_59 ?_
  refine lv_numI (v := 0) (by decide) ?_
  have hP9 := hP.sub (ws' := [(h0, .inr (15, [v0, v1, .ref a, v3, v4, .int 0])), (a, .inr (4, [.int (m0 + 1), .ref qa_473, .int 1]))]) [0, 4] rfl
  have hD9 := hD.sub (ws' := [(h0, .inr (15, [v0, v1, .ref a, v3, v4, .int 0])), (a, .inr (4, [.int (m0 + 1), .ref qa_473, .int 1]))]) [0, 4] (by decide) rfl
  have hK9 := hK.sub (tys' := [(cT, .int)]) [1] rfl
  refine W.widen (k := 4) (n := 28) (Nat.le_of_ble_eq_true rfl) (Nat.le_of_ble_eq_true rfl) ?_
  exact W.iret (v := 0) hx hb hr (fun t ht hW => ⟨⟨0, (), rfl, rfl, ⟨qa_473, by rw [ht]; exact hP9, va_K.moved hW.alike hK9, hD9⟩⟩, hS.F ht⟩) hS.2.2 dX10_addSpecification_60
set_option maxHeartbeats 4000000 in
set_option maxRecDepth 100000 in
theorem z_checksum (l : Launch) (dC : Nat → ClassId) (dI : Nat → Nat → Nat) (sz : Nat) (ed : Nat) (h0 : Nat) (a : Nat) (b : Nat) (v1 : Value) (v2 : Value) (v4 : Value) (th : Int32) (m0 : Int32) (k0 : Int32) (w1 : Value) (w2 : Value) : Met l yX10_checksum (pw_ws yX10_checksum cX10_checksum 5 (some .long)) ({ frames := 3, cells := 2, slots := 8, locals := 61 } : Room) (va_Pc [.ref h0] (fun U => U.heap.size = sz ∧ va_P (dC, dI) vwCl [(h0, .inr (15, [.ref a, v1, v2, .ref b, v4, .int th])), (a, .inr (4, [.int m0, w1, .int 0])), (b, .inr (4, [.int k0, w2, .int 0]))] U.heap ∧ va_K (dC, dI) vwCl [] U ∧ va_D (fun _ => True) [(h0, .inr (15, [.ref a, v1, v2, .ref b, v4, .int th])), (a, .inr (4, [.int m0, w1, .int 0])), (b, .inr (4, [.int k0, w2, .int 0]))] ∧ pz ed (va_A [(h0, .inr (15, [.ref a, v1, v2, .ref b, v4, .int th])), (a, .inr (4, [.int m0, w1, .int 0])), (b, .inr (4, [.int k0, w2, .int 0]))] sz) U U.heap)) (va_Ql (fun (r : Int64) (_ : Unit) => r = 7) (fun (_ : Unit) (t : State) => va_P (dC, dI) vwCl [(h0, .inr (15, [.ref a, v1, v2, .ref b, v4, .int 0])), (a, .inr (4, [.int m0, w1, .int 0])), (b, .inr (4, [.int k0, w2, .int 0]))] t.heap ∧ va_K (dC, dI) vwCl [] t ∧ va_D (va_A [(h0, .inr (15, [.ref a, v1, v2, .ref b, v4, .int th])), (a, .inr (4, [.int m0, w1, .int 0])), (b, .inr (4, [.int k0, w2, .int 0]))] sz) [(h0, .inr (15, [.ref a, v1, v2, .ref b, v4, .int 0])), (a, .inr (4, [.int m0, w1, .int 0])), (b, .inr (4, [.int k0, w2, .int 0]))]) (va_A [(h0, .inr (15, [.ref a, v1, v2, .ref b, v4, .int th])), (a, .inr (4, [.int m0, w1, .int 0])), (b, .inr (4, [.int k0, w2, .int 0]))] sz)) 2 8 (va_A [(h0, .inr (15, [.ref a, v1, v2, .ref b, v4, .int th])), (a, .inr (4, [.int m0, w1, .int 0])), (b, .inr (4, [.int k0, w2, .int 0]))] sz) := by
  refine Met.ofW (cc := cX10_checksum) (maxL := 5) (ret := (some .long)) (by decide) rfl ?_
  intro p e s m args below meth c s₁ B hml hv
  obtain ⟨rfl, hsz, hP, hK, hD0, hZ⟩ := hv
  have hx := B.exec
  have hb := B.bytes
  have hr := B.returns
  have hts0 := atoms_spec (ws := (pw_ws yX10_checksum cX10_checksum 5 (some .long))) B.pre
  have hts : ∀ w ∈ pw_all, w.before _ s = true := fun w h => hts0 w (List.mem_cons_of_mem _ h)
  have hown : s.vm.findClass RX10 = some m.cls := findClass_of_methodNamed B.named
  have hlocks := B.notSynchronized
  subst hsz
  have hD := hD0.self (sz := s.heap.size)
  generalize hAe : va_A [(h0, .inr (15, [.ref a, v1, v2, .ref b, v4, .int th])), (a, .inr (4, [.int m0, w1, .int 0])), (b, .inr (4, [.int k0, w2, .int 0]))] s.heap.size = A at hD hZ ⊢
  have hA : ∀ q : Nat, s.heap.size ≤ q → A q := fun q h => by rw [← hAe]; exact Or.inr h
  have hS : va_S A s.heap s.heap [] := va_S.rf
  have hP : va_P (dC, dI) vwCl [(h0, .inr (15, [.ref a, v1, v2, .ref b, v4, .int th])), (a, .inr (4, [.int m0, w1, .int 0])), (b, .inr (4, [.int k0, w2, .int 0]))] s.heap := hP
  have hl := lv_entry ([.ref h0]) (n := 5) (Nat.le_of_ble_eq_true rfl)
  rw [lg_entry_eq]
  generalize (lg_sl ([.ref h0]) ++ List.replicate (5 - (lg_sl ([.ref h0])).length) Slot.unset).toArray = ls at hl ⊢
  have hl : lv_has ls 5 [(0, .ref h0)] := hl
  skip
  refine lv_aload_n hx hb dX10_checksum_0 rfl (lv_at hl 0 rfl) ?_
  refine lv_iconst (v := 0) hx hb dX10_checksum_1 (by decide) ?_
  refine va_put (D := (dC, dI)) (ci := 15) (v := .int 0) (ty := .int) (C := RX10) (T := TX10) (N := 6) hx hb hts inX10 tyX10 tyX10_ok nmX10 hown hK hP hD hS 0 rfl rfl 5 (by decide) (hts _ q1230) (fun _ h9 => h9) rfl (by decide +kernel) rfl rfl (Nat.le_of_ble_eq_true rfl) dX10_checksum_2 (fun H locs hP hD hS => ?_)
  have hP : va_P (dC, dI) vwCl [(h0, .inr (15, [.ref a, v1, v2, .ref b, v4, .int 0])), (a, .inr (4, [.int m0, w1, .int 0])), (b, .inr (4, [.int k0, w2, .int 0]))] H := hP
  have hD : va_D A [(h0, .inr (15, [.ref a, v1, v2, .ref b, v4, .int 0])), (a, .inr (4, [.int m0, w1, .int 0])), (b, .inr (4, [.int k0, w2, .int 0]))] := hD
  refine lv_ldc2 (v := 7) hx hb hown (hts _ q2101) dX10_checksum_5 ?_
  refine lv_lstore_n (lv' := [(1, .long 7), (0, .ref h0)]) hx hb dX10_checksum_8 rfl hl (by decide) rfl (fun ls hl => ?_)
  refine lv_aload_n hx hb dX10_checksum_9 rfl (lv_at hl 1 rfl) ?_
  refine va_get (D := (dC, dI)) (ci := 15) (v := .ref a) (C := RX10) (T := TX10) (N := 6) hx hb hts inX10 hown hK hP 0 rfl rfl 0 (by decide) (hts _ q1225) (fun _ h9 => h9) rfl dX10_checksum_10 ?_
  have hPc := hP.sub (ws' := [(a, .inr (4, [.int m0, w1, .int 0]))]) [1] rfl
  have hDc := hD.sub (ws' := [(a, .inr (4, [.int m0, w1, .int 0]))]) [1] (by decide) rfl
  have hKc := hK.sub (tys' := []) [] rfl
  have hFc := va_free (wc := [(a, .inr (4, [.int m0, w1, .int 0]))]) hD hS hA [1] rfl
  refine va_callr (va_runV (As := []) (rest := []) ⟨hx, hb, hml, hown, hts⟩ (m_iterator l dC dI H.size a m0 w1 (.int 0)) (cwV 0 hts (pw_V q1522 q1523 q1524 q46 q1525) rfl rfl rfl (by decide +kernel) ⟨(Nat.le_of_ble_eq_true rfl), (Nat.le_of_ble_eq_true rfl)⟩) ⟨fun a U g mk q => by obtain ⟨q0, q1, qP, qK, qD⟩ := q; exact ⟨q0, q1, qP, va_K.moved (u := U) (U := U.calling g mk a) (Vm.Alike.refl U.vm) qK, qD⟩, va_recv hKc hPc (ci := 4) (q0 := 0) rfl rfl, fun U hU hW => ⟨rfl, by rw [hU], by rw [hU]; exact hPc, va_K.moved hW.alike hKc, hDc.weaken (fun _ _ _ _ => trivial)⟩⟩ rfl rfl hl.1 rfl (lv_room (Nat.le_of_ble_eq_true rfl)) dX10_checksum_13 ⟨(Nat.le_of_ble_eq_true rfl), (Nat.le_of_ble_eq_true rfl)⟩) hS (fun q _ h => hFc q h) hFc (fun u r_475 t H1 locs ht hvm hw hB hz1 hk1 hS => ?_)
  obtain ⟨hP1, hK1, hD1⟩ := hB
  rw [ht] at hP1
  have hK1 := va_K.moved hvm.symm hK1
  obtain ⟨hP, hD⟩ := va_join (wr := [(h0, .inr (15, [.ref a, v1, v2, .ref b, v4, .int 0])), (b, .inr (4, [.int k0, w2, .int 0]))]) (w1 := [(r_475, .inr (3, [.int 0, .int (-1), .int m0, .ref a])), (a, .inr (4, [.int m0, w1, .int 0]))]) hP hD [1] [0, 2] rfl rfl (by decide) (by decide) hk1 hFc hP1 hD1
  have hK := (hK.sub (tys' := []) [] rfl).app hK1
  generalize H1 = H at hP hS ⊢
  have hP : va_P (dC, dI) vwCl [(h0, .inr (15, [.ref a, v1, v2, .ref b, v4, .int 0])), (b, .inr (4, [.int k0, w2, .int 0])), (r_475, .inr (3, [.int 0, .int (-1), .int m0, .ref a])), (a, .inr (4, [.int m0, w1, .int 0]))] H := hP
  have hD : va_D A [(h0, .inr (15, [.ref a, v1, v2, .ref b, v4, .int 0])), (b, .inr (4, [.int k0, w2, .int 0])), (r_475, .inr (3, [.int 0, .int (-1), .int m0, .ref a])), (a, .inr (4, [.int m0, w1, .int 0]))] := hD
  have hK : va_K (dC, dI) vwCl [] s := hK
  refine W.widen (k := 1) (n := 4) (Nat.le_of_ble_eq_true rfl) (Nat.le_of_ble_eq_true rfl) ?_
  refine lv_astore_n (lv' := [(3, .ref r_475), (1, .long 7), (0, .ref h0)]) hx hb dX10_checksum_16 rfl hl (by decide) rfl (fun ls hl => ?_)
  refine lv_aload_n hx hb dX10_checksum_17 rfl (lv_at hl 0 rfl) ?_
  have hPc := hP.sub (ws' := [(r_475, .inr (3, [.int 0, .int (-1), .int m0, .ref a])), (a, .inr (4, [.int m0, w1, .int 0]))]) [2, 3] rfl
  have hDc := hD.sub (ws' := [(r_475, .inr (3, [.int 0, .int (-1), .int m0, .ref a])), (a, .inr (4, [.int m0, w1, .int 0]))]) [2, 3] (by decide) rfl
  have hKc := hK.sub (tys' := []) [] rfl
  have hFc := va_free (wc := [(r_475, .inr (3, [.int 0, .int (-1), .int m0, .ref a])), (a, .inr (4, [.int m0, w1, .int 0]))]) hD hS hA [2, 3] rfl
  refine va_callFi (va_runF (As := []) (rest := []) (hKc.1 3 _ rfl).2 ⟨hx, hb, hml, hown, hts⟩ (m_hasNext l dC dI H.size ed r_475 a (.int (-1)) (.int m0) (.int m0) w1) (va_cwF 0 hts (pw_F q1546 q1550 q1552 q70 q1554) rfl rfl rfl hZ.iter (by decide +kernel) ⟨(Nat.le_of_ble_eq_true rfl), (Nat.le_of_ble_eq_true rfl)⟩) ⟨fun a U g mk q => by obtain ⟨q0, q1, qP, qK, qD, qZ⟩ := q; exact ⟨q0, q1, qP, va_K.moved (u := U) (U := U.calling g mk a) (Vm.Alike.refl U.vm) qK, qD, qZ.same rfl⟩, va_recv hKc hPc (ci := 3) (q0 := 0) rfl rfl, fun U hU hW => ⟨rfl, by rw [hU], by rw [hU]; exact hPc, va_K.moved hW.alike hKc, hDc.weaken (fun _ _ _ _ => trivial), hZ.call hS hFc hU hW⟩⟩ rfl rfl hl.1 rfl (lv_room (Nat.le_of_ble_eq_true rfl)) dX10_checksum_18 ⟨(Nat.le_of_ble_eq_true rfl), (Nat.le_of_ble_eq_true rfl)⟩) hS (fun q _ h => hFc q h) hFc (fun r_476 u t H1 locs ht hvm hw hB hz1 hk1 hS => ?_)
  obtain ⟨hP1, hK1, hD1⟩ := hB
  rw [ht] at hP1
  have hK1 := va_K.moved hvm.symm hK1
  obtain ⟨hP, hD⟩ := va_join (wr := [(h0, .inr (15, [.ref a, v1, v2, .ref b, v4, .int 0])), (b, .inr (4, [.int k0, w2, .int 0]))]) (w1 := [(r_475, .inr (3, [.int 0, .int (-1), .int m0, .ref a])), (a, .inr (4, [.int m0, w1, .int 0]))]) hP hD [2, 3] [0, 1] rfl rfl (by decide) (by decide) hk1 hFc hP1 hD1
  have hK := (hK.sub (tys' := []) [] rfl).app hK1
  generalize H1 = H at hP hS ⊢
  have hP : va_P (dC, dI) vwCl [(h0, .inr (15, [.ref a, v1, v2, .ref b, v4, .int 0])), (b, .inr (4, [.int k0, w2, .int 0])), (r_475, .inr (3, [.int 0, .int (-1), .int m0, .ref a])), (a, .inr (4, [.int m0, w1, .int 0]))] H := hP
  have hD : va_D A [(h0, .inr (15, [.ref a, v1, v2, .ref b, v4, .int 0])), (b, .inr (4, [.int k0, w2, .int 0])), (r_475, .inr (3, [.int 0, .int (-1), .int m0, .ref a])), (a, .inr (4, [.int m0, w1, .int 0]))] := hD
  have hK : va_K (dC, dI) vwCl [] s := hK
  refine W.widen (k := 1) (n := 4) (Nat.le_of_ble_eq_true rfl) (Nat.le_of_ble_eq_true rfl) ?_
  have hw : r_476 = 0 := hw
  subst hw
  refine lv_if_eq (tgt := 81) hx hb dX10_checksum_23 (by decide) (fun c_477 => ?_) (fun c_477 => absurd (by decide) c_477)
  refine lv_aload_n hx hb dX10_checksum_81 rfl (lv_at hl 2 rfl) ?_
  refine va_get (D := (dC, dI)) (ci := 15) (v := .ref b) (C := RX10) (T := TX10) (N := 6) hx hb hts inX10 hown hK hP 0 rfl rfl 3 (by decide) (hts _ q1228) (fun _ h9 => h9) rfl dX10_checksum_82 ?_
  have hPc := hP.sub (ws' := [(b, .inr (4, [.int k0, w2, .int 0]))]) [1] rfl
  have hDc := hD.sub (ws' := [(b, .inr (4, [.int k0, w2, .int 0]))]) [1] (by decide) rfl
  have hKc := hK.sub (tys' := []) [] rfl
  have hFc := va_free (wc := [(b, .inr (4, [.int k0, w2, .int 0]))]) hD hS hA [1] rfl
  refine va_callr (va_runV (As := []) (rest := []) ⟨hx, hb, hml, hown, hts⟩ (m_iterator l dC dI H.size b k0 w2 (.int 0)) (cwV 0 hts (pw_V q1522 q1523 q1524 q46 q1525) rfl rfl rfl (by decide +kernel) ⟨(Nat.le_of_ble_eq_true rfl), (Nat.le_of_ble_eq_true rfl)⟩) ⟨fun a U g mk q => by obtain ⟨q0, q1, qP, qK, qD⟩ := q; exact ⟨q0, q1, qP, va_K.moved (u := U) (U := U.calling g mk a) (Vm.Alike.refl U.vm) qK, qD⟩, va_recv hKc hPc (ci := 4) (q0 := 0) rfl rfl, fun U hU hW => ⟨rfl, by rw [hU], by rw [hU]; exact hPc, va_K.moved hW.alike hKc, hDc.weaken (fun _ _ _ _ => trivial)⟩⟩ rfl rfl hl.1 rfl (lv_room (Nat.le_of_ble_eq_true rfl)) dX10_checksum_85 ⟨(Nat.le_of_ble_eq_true rfl), (Nat.le_of_ble_eq_true rfl)⟩) hS (fun q _ h => hFc q h) hFc (fun u r_478 t H1 locs ht hvm hw hB hz1 hk1 hS => ?_)
  obtain ⟨hP1, hK1, hD1⟩ := hB
  rw [ht] at hP1
  have hK1 := va_K.moved hvm.symm hK1
  obtain ⟨hP, hD⟩ := va_join (wr := [(h0, .inr (15, [.ref a, v1, v2, .ref b, v4, .int 0])), (r_475, .inr (3, [.int 0, .int (-1), .int m0, .ref a])), (a, .inr (4, [.int m0, w1, .int 0]))]) (w1 := [(r_478, .inr (3, [.int 0, .int (-1), .int k0, .ref b])), (b, .inr (4, [.int k0, w2, .int 0]))]) hP hD [1] [0, 2, 3] rfl rfl (by decide) (by decide) hk1 hFc hP1 hD1
  have hK := (hK.sub (tys' := []) [] rfl).app hK1
  generalize H1 = H at hP hS ⊢
  have hP : va_P (dC, dI) vwCl [(h0, .inr (15, [.ref a, v1, v2, .ref b, v4, .int 0])), (r_475, .inr (3, [.int 0, .int (-1), .int m0, .ref a])), (a, .inr (4, [.int m0, w1, .int 0])), (r_478, .inr (3, [.int 0, .int (-1), .int k0, .ref b])), (b, .inr (4, [.int k0, w2, .int 0]))] H := hP
  have hD : va_D A [(h0, .inr (15, [.ref a, v1, v2, .ref b, v4, .int 0])), (r_475, .inr (3, [.int 0, .int (-1), .int m0, .ref a])), (a, .inr (4, [.int m0, w1, .int 0])), (r_478, .inr (3, [.int 0, .int (-1), .int k0, .ref b])), (b, .inr (4, [.int k0, w2, .int 0]))] := hD
  have hK : va_K (dC, dI) vwCl [] s := hK
  refine W.widen (k := 2) (n := 8) (Nat.le_of_ble_eq_true rfl) (Nat.le_of_ble_eq_true rfl) ?_
  refine lv_astore_n (lv' := [(3, .ref r_478), (1, .long 7), (0, .ref h0)]) hx hb dX10_checksum_88 rfl hl (by decide) rfl (fun ls hl => ?_)
  refine lv_aload_n hx hb dX10_checksum_89 rfl (lv_at hl 0 rfl) ?_
  have hPc := hP.sub (ws' := [(r_478, .inr (3, [.int 0, .int (-1), .int k0, .ref b])), (b, .inr (4, [.int k0, w2, .int 0]))]) [3, 4] rfl
  have hDc := hD.sub (ws' := [(r_478, .inr (3, [.int 0, .int (-1), .int k0, .ref b])), (b, .inr (4, [.int k0, w2, .int 0]))]) [3, 4] (by decide) rfl
  have hKc := hK.sub (tys' := []) [] rfl
  have hFc := va_free (wc := [(r_478, .inr (3, [.int 0, .int (-1), .int k0, .ref b])), (b, .inr (4, [.int k0, w2, .int 0]))]) hD hS hA [3, 4] rfl
  refine va_callFi (va_runF (As := []) (rest := []) (hKc.1 3 _ rfl).2 ⟨hx, hb, hml, hown, hts⟩ (m_hasNext l dC dI H.size ed r_478 b (.int (-1)) (.int k0) (.int k0) w2) (va_cwF 0 hts (pw_F q1546 q1550 q1552 q70 q1554) rfl rfl rfl hZ.iter (by decide +kernel) ⟨(Nat.le_of_ble_eq_true rfl), (Nat.le_of_ble_eq_true rfl)⟩) ⟨fun a U g mk q => by obtain ⟨q0, q1, qP, qK, qD, qZ⟩ := q; exact ⟨q0, q1, qP, va_K.moved (u := U) (U := U.calling g mk a) (Vm.Alike.refl U.vm) qK, qD, qZ.same rfl⟩, va_recv hKc hPc (ci := 3) (q0 := 0) rfl rfl, fun U hU hW => ⟨rfl, by rw [hU], by rw [hU]; exact hPc, va_K.moved hW.alike hKc, hDc.weaken (fun _ _ _ _ => trivial), hZ.call hS hFc hU hW⟩⟩ rfl rfl hl.1 rfl (lv_room (Nat.le_of_ble_eq_true rfl)) dX10_checksum_90 ⟨(Nat.le_of_ble_eq_true rfl), (Nat.le_of_ble_eq_true rfl)⟩) hS (fun q _ h => hFc q h) hFc (fun r_479 u t H1 locs ht hvm hw hB hz1 hk1 hS => ?_)
  obtain ⟨hP1, hK1, hD1⟩ := hB
  rw [ht] at hP1
  have hK1 := va_K.moved hvm.symm hK1
  obtain ⟨hP, hD⟩ := va_join (wr := [(h0, .inr (15, [.ref a, v1, v2, .ref b, v4, .int 0])), (r_475, .inr (3, [.int 0, .int (-1), .int m0, .ref a])), (a, .inr (4, [.int m0, w1, .int 0]))]) (w1 := [(r_478, .inr (3, [.int 0, .int (-1), .int k0, .ref b])), (b, .inr (4, [.int k0, w2, .int 0]))]) hP hD [3, 4] [0, 1, 2] rfl rfl (by decide) (by decide) hk1 hFc hP1 hD1
  have hK := (hK.sub (tys' := []) [] rfl).app hK1
  generalize H1 = H at hP hS ⊢
  have hP : va_P (dC, dI) vwCl [(h0, .inr (15, [.ref a, v1, v2, .ref b, v4, .int 0])), (r_475, .inr (3, [.int 0, .int (-1), .int m0, .ref a])), (a, .inr (4, [.int m0, w1, .int 0])), (r_478, .inr (3, [.int 0, .int (-1), .int k0, .ref b])), (b, .inr (4, [.int k0, w2, .int 0]))] H := hP
  have hD : va_D A [(h0, .inr (15, [.ref a, v1, v2, .ref b, v4, .int 0])), (r_475, .inr (3, [.int 0, .int (-1), .int m0, .ref a])), (a, .inr (4, [.int m0, w1, .int 0])), (r_478, .inr (3, [.int 0, .int (-1), .int k0, .ref b])), (b, .inr (4, [.int k0, w2, .int 0]))] := hD
  have hK : va_K (dC, dI) vwCl [] s := hK
  refine W.widen (k := 2) (n := 8) (Nat.le_of_ble_eq_true rfl) (Nat.le_of_ble_eq_true rfl) ?_
  have hw : r_479 = 0 := hw
  subst hw
  refine lv_if_eq (tgt := 154) hx hb dX10_checksum_95 (by decide) (fun c_480 => ?_) (fun c_480 => absurd (by decide) c_480)
  refine lv_lload_n hx hb dX10_checksum_154 rfl (lv_at hl 1 rfl) ?_
  have hP9 := hP.sub (ws' := [(h0, .inr (15, [.ref a, v1, v2, .ref b, v4, .int 0])), (a, .inr (4, [.int m0, w1, .int 0])), (b, .inr (4, [.int k0, w2, .int 0]))]) [0, 2, 4] rfl
  have hD9 := hD.sub (ws' := [(h0, .inr (15, [.ref a, v1, v2, .ref b, v4, .int 0])), (a, .inr (4, [.int m0, w1, .int 0])), (b, .inr (4, [.int k0, w2, .int 0]))]) [0, 2, 4] (by decide) rfl
  have hK9 := hK.sub (tys' := []) [] rfl
  refine W.widen (k := 2) (n := 8) (Nat.le_of_ble_eq_true rfl) (Nat.le_of_ble_eq_true rfl) ?_
  exact W.lret (v := 7) hx hb hr (fun t ht hW => ⟨⟨7, (), rfl, rfl, ⟨by rw [ht]; exact hP9, va_K.moved hW.alike hK9, hD9⟩⟩, hS.F ht⟩) hS.2.2 dX10_checksum_155
