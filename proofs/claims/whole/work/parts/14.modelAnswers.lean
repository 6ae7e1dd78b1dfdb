set_option maxHeartbeats 4000000 in
set_option maxRecDepth 100000 in
theorem z_addStructure (l : Launch) (dC : Nat → ClassId) (dI : Nat → Nat → Nat) (sz : Nat) (ed : Nat) (h0 : Nat) (a : Nat) (v1 : Value) (v2 : Value) (v3 : Value) (v4 : Value) (th : Int32) (m0 : Int32) : Met l yX10_addStructure (pw_ws yX10_addStructure cX10_addStructure 1 (some .int)) ({ frames := 5, cells := 4, slots := 27, locals := 107 } : Room) (va_Pc [.ref h0] (fun U => U.heap.size = sz ∧ va_P (dC, dI) vwCl [(h0, .inr (15, [.ref a, v1, v2, v3, v4, .int th])), (a, .inr (4, [.int m0, .ref ed, .int 0]))] U.heap ∧ va_K (dC, dI) vwCl [] U ∧ va_D (fun _ => True) [(h0, .inr (15, [.ref a, v1, v2, v3, v4, .int th])), (a, .inr (4, [.int m0, .ref ed, .int 0]))] ∧ pz ed (va_A [(h0, .inr (15, [.ref a, v1, v2, v3, v4, .int th])), (a, .inr (4, [.int m0, .ref ed, .int 0]))] sz) U U.heap)) (va_Qi (fun (r : Int32) (_ : Unit) => r = 0) (fun (_ : Unit) (t : State) => ∃ (qb : Nat), va_P (dC, dI) vwCl [(h0, .inr (15, [.ref a, v1, v2, v3, v4, .int 0])), (a, .inr (4, [.int (m0 + 1), .ref qb, .int 1]))] t.heap ∧ va_K (dC, dI) vwCl [] t ∧ va_D (va_A [(h0, .inr (15, [.ref a, v1, v2, v3, v4, .int th])), (a, .inr (4, [.int m0, .ref ed, .int 0]))] sz) [(h0, .inr (15, [.ref a, v1, v2, v3, v4, .int 0])), (a, .inr (4, [.int (m0 + 1), .ref qb, .int 1]))]) (va_A [(h0, .inr (15, [.ref a, v1, v2, v3, v4, .int th])), (a, .inr (4, [.int m0, .ref ed, .int 0]))] sz)) 4 27 (va_A [(h0, .inr (15, [.ref a, v1, v2, v3, v4, .int th])), (a, .inr (4, [.int m0, .ref ed, .int 0]))] sz) := by
  refine Met.ofW (cc := cX10_addStructure) (maxL := 1) (ret := (some .int)) (by decide) rfl ?_
  intro p e s m args below meth c s₁ B hml hv
  obtain ⟨rfl, hsz, hP, hK, hD0, hZ⟩ := hv
  have hx := B.exec
  have hb := B.bytes
  have hr := B.returns
  have hts0 := atoms_spec (ws := (pw_ws yX10_addStructure cX10_addStructure 1 (some .int))) B.pre
  have hts : ∀ w ∈ pw_all, w.before _ s = true := fun w h => hts0 w (List.mem_cons_of_mem _ h)
  have hown : s.vm.findClass RX10 = some m.cls := findClass_of_methodNamed B.named
  have hlocks := B.notSynchronized
  subst hsz
  have hD := hD0.self (sz := s.heap.size)
  generalize hAe : va_A [(h0, .inr (15, [.ref a, v1, v2, v3, v4, .int th])), (a, .inr (4, [.int m0, .ref ed, .int 0]))] s.heap.size = A at hD hZ ⊢
  have hA : ∀ q : Nat, s.heap.size ≤ q → A q := fun q h => by rw [← hAe]; exact Or.inr h
  have hS : va_S A s.heap s.heap [] := va_S.rf
  have hP : va_P (dC, dI) vwCl [(h0, .inr (15, [.ref a, v1, v2, v3, v4, .int th])), (a, .inr (4, [.int m0, .ref ed, .int 0]))] s.heap := hP
  have hl := lv_entry ([.ref h0]) (n := 1) (Nat.le_of_ble_eq_true rfl)
  rw [lg_entry_eq]
  generalize (lg_sl ([.ref h0]) ++ List.replicate (1 - (lg_sl ([.ref h0])).length) Slot.unset).toArray = ls at hl ⊢
  have hl : lv_has ls 1 [(0, .ref h0)] := hl
  skip
  refine lv_aload_n hx hb dX10_addStructure_0 rfl (lv_at hl 0 rfl) ?_
  refine lv_aload_n hx hb dX10_addStructure_1 rfl (lv_at hl 0 rfl) ?_
  refine va_get (D := (dC, dI)) (ci := 15) (v := .ref a) (C := RX10) (T := TX10) (N := 6) hx hb hts inX10 hown hK hP 0 rfl rfl 0 (by decide) (hts _ q1225) (fun _ h9 => h9) rfl dX10_addStructure_2 ?_
  have hPc := hP.sub (ws' := [(a, .inr (4, [.int m0, .ref ed, .int 0]))]) [1] rfl
  have hDc := hD.sub (ws' := [(a, .inr (4, [.int m0, .ref ed, .int 0]))]) [1] (by decide) rfl
  have hKc := hK.sub (tys' := []) [] rfl
  have hFc := va_free (wc := [(a, .inr (4, [.int m0, .ref ed, .int 0]))]) hD hS hA [1] rfl
  refine va_calli (va_runV (As := []) (rest := [.ref h0]) ⟨hx, hb, hml, hown, hts⟩ (m_size l dC dI s.heap.size a (.int m0) (.ref ed) 0) (cwV 0 hts (pw_V q1252 q274 q275 q46 q276) rfl rfl rfl (by decide +kernel) ⟨(Nat.le_of_ble_eq_true rfl), (Nat.le_of_ble_eq_true rfl)⟩) ⟨fun a U g mk q => by obtain ⟨q0, q1, qP, qK, qD⟩ := q; exact ⟨q0, q1, qP, va_K.moved (u := U) (U := U.calling g mk a) (Vm.Alike.refl U.vm) qK, qD⟩, va_recv hKc hPc (ci := 4) (q0 := 0) rfl rfl, fun U hU hW => ⟨rfl, by rw [hU], by rw [hU]; exact hPc, va_K.moved hW.alike hKc, hDc.weaken (fun _ _ _ _ => trivial)⟩⟩ rfl rfl hl.1 rfl (lv_room (Nat.le_of_ble_eq_true rfl)) dX10_addStructure_5 ⟨(Nat.le_of_ble_eq_true rfl), (Nat.le_of_ble_eq_true rfl)⟩) hS (fun q _ h => hFc q h) hFc (fun r_367 u t H1 locs ht hvm hw hB hz1 hk1 hS => ?_)
  obtain ⟨hP1, hK1, hD1⟩ := hB
  rw [ht] at hP1
  have hK1 := va_K.moved hvm.symm hK1
  obtain ⟨hP, hD⟩ := va_join (wr := [(h0, .inr (15, [.ref a, v1, v2, v3, v4, .int th]))]) (w1 := [(a, .inr (4, [.int m0, .ref ed, .int 0]))]) hP hD [1] [0] rfl rfl (by decide) (by decide) hk1 hFc hP1 hD1
  have hK := (hK.sub (tys' := []) [] rfl).app hK1
  generalize H1 = H at hP hS ⊢
  have hP : va_P (dC, dI) vwCl [(h0, .inr (15, [.ref a, v1, v2, v3, v4, .int th])), (a, .inr (4, [.int m0, .ref ed, .int 0]))] H := hP
  have hD : va_D A [(h0, .inr (15, [.ref a, v1, v2, v3, v4, .int th])), (a, .inr (4, [.int m0, .ref ed, .int 0]))] := hD
  have hK : va_K (dC, dI) vwCl [] s := hK
  refine W.widen (k := 0) (n := 0) (Nat.le_of_ble_eq_true rfl) (Nat.le_of_ble_eq_true rfl) ?_
  have hw : r_367 = 0 := hw
  subst hw
  refine lv_bipush (v := 6) hx hb dX10_addStructure_8 (by decide) ?_
  refine lv_icmp_ne (tgt := 17) hx hb dX10_addStructure_10 (by decide) (fun c_368 => ?_) (fun c_368 => absurd c_368 (by decide))
  refine lv_iconst (v := 0) hx hb dX10_addStructure_17 (by decide) ?_
  refine lv_iconst (v := 1) hx hb dX10_addStructure_18 (by decide) ?_
  have hPc := hP.sub (ws' := [(h0, .inr (15, [.ref a, v1, v2, v3, v4, .int th]))]) [0] rfl
  have hDc := hD.sub (ws' := [(h0, .inr (15, [.ref a, v1, v2, v3, v4, .int th]))]) [0] (by decide) rfl
  have hKc := hK.sub (tys' := []) [] rfl
  have hFc := va_free (wc := [(h0, .inr (15, [.ref a, v1, v2, v3, v4, .int th]))]) hD hS hA [0] rfl
  refine va_calli (va_runV (As := [.int 0, .int 1]) (rest := []) ⟨hx, hb, hml, hown, hts⟩ (n_isThrown0 l dC dI H.size h0 (.ref a) v1 v2 v3 v4 th 1) (cwV 2 hts (pw_V q1253 q1255 q19 q49 q1256) rfl rfl rfl (by decide +kernel) ⟨(Nat.le_of_ble_eq_true rfl), (Nat.le_of_ble_eq_true rfl)⟩) ⟨fun a U g mk q => by obtain ⟨q0, q1, qP, qK, qD⟩ := q; exact ⟨q0, q1, qP, va_K.moved (u := U) (U := U.calling g mk a) (Vm.Alike.refl U.vm) qK, qD⟩, va_recv hKc hPc (ci := 15) (q0 := 0) rfl rfl, fun U hU hW => ⟨rfl, by rw [hU], by rw [hU]; exact hPc, va_K.moved hW.alike hKc, hDc.weaken (fun _ _ _ _ => trivial)⟩⟩ rfl rfl hl.1 rfl (lv_room (Nat.le_of_ble_eq_true rfl)) dX10_addStructure_19 ⟨(Nat.le_of_ble_eq_true rfl), (Nat.le_of_ble_eq_true rfl)⟩) hS (fun q _ h => hFc q h) hFc (fun r_369 u t H1 locs ht hvm hw hB hz1 hk1 hS => ?_)
  obtain ⟨hP1, hK1, hD1⟩ := hB
  rw [ht] at hP1
  have hK1 := va_K.moved hvm.symm hK1
  obtain ⟨hP, hD⟩ := va_join (wr := [(a, .inr (4, [.int m0, .ref ed, .int 0]))]) (w1 := [(h0, .inr (15, [.ref a, v1, v2, v3, v4, .int 0]))]) hP hD [0] [1] rfl rfl (by decide) (by decide) hk1 hFc hP1 hD1
  have hK := (hK.sub (tys' := []) [] rfl).app hK1
  generalize H1 = H at hP hS ⊢
  have hP : va_P (dC, dI) vwCl [(a, .inr (4, [.int m0, .ref ed, .int 0])), (h0, .inr (15, [.ref a, v1, v2, v3, v4, .int 0]))] H := hP
  have hD : va_D A [(a, .inr (4, [.int m0, .ref ed, .int 0])), (h0, .inr (15, [.ref a, v1, v2, v3, v4, .int 0]))] := hD
  have hK : va_K (dC, dI) vwCl [] s := hK
  refine W.widen (k := 0) (n := 0) (Nat.le_of_ble_eq_true rfl) (Nat.le_of_ble_eq_true rfl) ?_
  have hw : r_369 = 0 := hw
  subst hw
  refine lv_if_eq (tgt := 27) hx hb dX10_addStructure_22 (by decide) (fun c_370 => ?_) (fun c_370 => absurd (by decide) c_370)
  refine lv_aload_n hx hb dX10_addStructure_27 rfl (lv_at hl 0 rfl) ?_
  refine va_get (D := (dC, dI)) (ci := 15) (v := .ref a) (C := RX10) (T := TX10) (N := 6) hx hb hts inX10 hown hK hP 1 rfl rfl 0 (by decide) (hts _ q1225) (fun _ h9 => h9) rfl dX10_addStructure_28 ?_
  refine va_new (ci := 14) (fs := [.null, .null, .long 0, .int 0, .int 0, .int 0]) (C := RX9) (T := TX9) (N := 6) hx hb hts inX9 tyX9 tyX9_ok hown (hts _ q1257) (hts _ q1258) (hts _ q59) hK hP hD hS hA rfl (fun j hj => by rcases (show j = 0 ∨ j = 1 ∨ j = 2 ∨ j = 3 ∨ j = 4 ∨ j = 5 by omega) with rfl | rfl | rfl | rfl | rfl | rfl <;> rfl) (Nat.le_of_ble_eq_true rfl) (Nat.le_of_ble_eq_true rfl) dX10_addStructure_31 (fun q_371 H hP hD hS => ?_)
  have hP : va_P (dC, dI) vwCl [(a, .inr (4, [.int m0, .ref ed, .int 0])), (h0, .inr (15, [.ref a, v1, v2, v3, v4, .int 0])), (q_371, .inr (14, [.null, .null, .long 0, .int 0, .int 0, .int 0]))] H := hP
  have hD : va_D A [(a, .inr (4, [.int m0, .ref ed, .int 0])), (h0, .inr (15, [.ref a, v1, v2, v3, v4, .int 0])), (q_371, .inr (14, [.null, .null, .long 0, .int 0, .int 0, .int 0]))] := hD
  refine W.widen (k := 1) (n := 6) (Nat.le_of_ble_eq_true rfl) (Nat.le_of_ble_eq_true rfl) ?_
  refine lv_dup hx hb dX10_addStructure_34 rfl ?_
  have hPc := hP.sub (ws' := [(q_371, .inr (14, [.null, .null, .long 0, .int 0, .int 0, .int 0]))]) [2] rfl
  have hDc := hD.sub (ws' := [(q_371, .inr (14, [.null, .null, .long 0, .int 0, .int 0, .int 0]))]) [2] (by decide) rfl
  have hKc := hK.sub (tys' := []) [] rfl
  have hFc := va_free (wc := [(q_371, .inr (14, [.null, .null, .long 0, .int 0, .int 0, .int 0]))]) hD hS hA [2] rfl
  refine va_callv (va_runIN (As := []) (rest := [.ref q_371, .ref a]) ⟨hx, hb, hml, hown, hts⟩ (m_mstructInit l dC dI H.size ed q_371) ⟨va_cnB 0 hts (pw_c q1261) rfl rfl rfl hZ.nestM (hts _ q59) (by decide +kernel) ⟨(Nat.le_of_ble_eq_true rfl), (Nat.le_of_ble_eq_true rfl)⟩, rfl, (hts _ q1260)⟩ ⟨fun a U g mk q => by obtain ⟨q0, q1, qP, qK, qD, qZ⟩ := q; exact ⟨q0, q1, qP, va_K.moved (u := U) (U := U.calling g mk a) (Vm.Alike.refl U.vm) qK, qD, qZ.same rfl⟩, fun U hU hW => ⟨rfl, by rw [hU], by rw [hU]; exact hPc, va_K.moved hW.alike hKc, hDc.weaken (fun _ _ _ _ => trivial), hZ.call hS hFc hU hW⟩⟩ rfl rfl hl.1 rfl (lv_room (Nat.le_of_ble_eq_true rfl)) dX10_addStructure_35 ⟨(Nat.le_of_ble_eq_true rfl), (Nat.le_of_ble_eq_true rfl)⟩) hS (fun q _ h => hFc q h) hFc (fun u t H1 locs ht hvm hw hB hz1 hk1 hS => ?_)
  obtain ⟨f0_373, f1_374, f2_375, f3_376, f4_377, f5_378, hP1, hK1, hD1⟩ := hB
  rw [ht] at hP1
  have hK1 := va_K.moved hvm.symm hK1
  obtain ⟨hP, hD⟩ := va_join (wr := [(a, .inr (4, [.int m0, .ref ed, .int 0])), (h0, .inr (15, [.ref a, v1, v2, v3, v4, .int 0]))]) (w1 := [(q_371, .inr (14, [f0_373, f1_374, f2_375, f3_376, f4_377, f5_378]))]) hP hD [2] [0, 1] rfl rfl (by decide) (by decide) hk1 hFc hP1 hD1
  have hK := (hK.sub (tys' := []) [] rfl).app hK1
  generalize H1 = H at hP hS ⊢
  have hP : va_P (dC, dI) vwCl [(a, .inr (4, [.int m0, .ref ed, .int 0])), (h0, .inr (15, [.ref a, v1, v2, v3, v4, .int 0])), (q_371, .inr (14, [f0_373, f1_374, f2_375, f3_376, f4_377, f5_378]))] H := hP
  have hD : va_D A [(a, .inr (4, [.int m0, .ref ed, .int 0])), (h0, .inr (15, [.ref a, v1, v2, v3, v4, .int 0])), (q_371, .inr (14, [f0_373, f1_374, f2_375, f3_376, f4_377, f5_378]))] := hD
  have hK : va_K (dC, dI) vwCl [] s := hK
  refine W.widen (k := 3) (n := 17) (Nat.le_of_ble_eq_true rfl) (Nat.le_of_ble_eq_true rfl) ?_
  have hPc := hP.sub (ws' := [(a, .inr (4, [.int m0, .ref ed, .int 0]))]) [0] rfl
  have hDc := hD.sub (ws' := [(a, .inr (4, [.int m0, .ref ed, .int 0]))]) [0] (by decide) rfl
  have hKc := hK.sub (tys' := []) [] rfl
  have hFc := va_free (wc := [(a, .inr (4, [.int m0, .ref ed, .int 0]))]) hD hS hA [0] rfl
  have hEk := pe.of hK hP (i := 2) (ci := 14) rfl rfl (va_Nw.of rfl (hZ.cast (args := #[]) (C := "ShakerhallModel$Structure") (T := "java/lang/Object") (by decide))) (pe_ne hP hD (i := 2) rfl [0] (wc := [(a, .inr (4, [.int m0, .ref ed, .int 0]))]) rfl (by decide))
  refine va_calli (va_runV (As := [.ref q_371]) (rest := []) ⟨hx, hb, hml, hown, hts⟩ (m_add l dC dI H.size ed a q_371 m0) (cwV 1 hts (pw_V q1290 q432 q433 q46 q434) rfl rfl rfl (by decide +kernel) ⟨(Nat.le_of_ble_eq_true rfl), (Nat.le_of_ble_eq_true rfl)⟩) ⟨fun a U g mk q => by obtain ⟨q0, q1, qP, qK, qD, qZ, qE⟩ := q; exact ⟨q0, q1, qP, va_K.moved (u := U) (U := U.calling g mk a) (Vm.Alike.refl U.vm) qK, qD, qZ.same rfl, qE.same rfl⟩, va_recv hKc hPc (ci := 4) (q0 := 0) rfl rfl, fun U hU hW => ⟨rfl, by rw [hU], by rw [hU]; exact hPc, va_K.moved hW.alike hKc, hDc.weaken (fun _ _ _ _ => trivial), hZ.call hS hFc hU hW, (hEk.warm hW).heap hU⟩⟩ rfl rfl hl.1 rfl (lv_room (Nat.le_of_ble_eq_true rfl)) dX10_addStructure_38 ⟨(Nat.le_of_ble_eq_true rfl), (Nat.le_of_ble_eq_true rfl)⟩) hS (fun q _ h => hFc q h) hFc (fun r_379 u t H1 locs ht hvm hw hB hz1 hk1 hS => ?_)
  obtain ⟨qa_380, hP1, hK1, hD1⟩ := hB
  rw [ht] at hP1
  have hK1 := va_K.moved hvm.symm hK1
  obtain ⟨hP, hD⟩ := va_join (wr := [(h0, .inr (15, [.ref a, v1, v2, v3, v4, .int 0])), (q_371, .inr (14, [f0_373, f1_374, f2_375, f3_376, f4_377, f5_378]))]) (w1 := [(a, .inr (4, [.int (m0 + 1), .ref qa_380, .int 1]))]) hP hD [0] [1, 2] rfl rfl (by decide) (by decide) hk1 hFc hP1 hD1
  have hK := (hK.sub (tys' := []) [] rfl).app hK1
  generalize H1 = H at hP hS ⊢
  have hP : va_P (dC, dI) vwCl [(h0, .inr (15, [.ref a, v1, v2, v3, v4, .int 0])), (q_371, .inr (14, [f0_373, f1_374, f2_375, f3_376, f4_377, f5_378])), (a, .inr (4, [.int (m0 + 1), .ref qa_380, .int 1]))] H := hP
  have hD : va_D A [(h0, .inr (15, [.ref a, v1, v2, v3, v4, .int 0])), (q_371, .inr (14, [f0_373, f1_374, f2_375, f3_376, f4_377, f5_378])), (a, .inr (4, [.int (m0 + 1), .ref qa_380, .int 1]))] := hD
  have hK : va_K (dC, dI) vwCl [] s := hK
  refine W.widen (k := 4) (n := 27) (Nat.le_of_ble_eq_true rfl) (Nat.le_of_ble_eq_true rfl) ?_
  have hw : r_379 = 1 := hw
  subst hw
  refine lv_pop hx hb dX10_addStructure_41 rfl ?_
  refine lv_aload_n hx hb dX10_addStructure_42 rfl (lv_at hl 0 rfl) ?_
  refine va_get (D := (dC, dI)) (ci := 15) (v := .ref a) (C := RX10) (T := TX10) (N := 6) hx hb hts inX10 hown hK hP 0 rfl rfl 0 (by decide) (hts _ q1225) (fun _ h9 => h9) rfl dX10_addStructure_43 ?_
  have hPc := hP.sub (ws' := [(a, .inr (4, [.int (m0 + 1), .ref qa_380, .int 1]))]) [2] rfl
  have hDc := hD.sub (ws' := [(a, .inr (4, [.int (m0 + 1), .ref qa_380, .int 1]))]) [2] (by decide) rfl
  have hKc := hK.sub (tys' := []) [] rfl
  have hFc := va_free (wc := [(a, .inr (4, [.int (m0 + 1), .ref qa_380, .int 1]))]) hD hS hA [2] rfl
  refine va_calli (va_runV (As := []) (rest := []) ⟨hx, hb, hml, hown, hts⟩ (m_size l dC dI H.size a (.int (m0 + 1)) (.ref qa_380) 1) (cwV 0 hts (pw_V q1252 q274 q275 q46 q276) rfl rfl rfl (by decide +kernel) ⟨(Nat.le_of_ble_eq_true rfl), (Nat.le_of_ble_eq_true rfl)⟩) ⟨fun a U g mk q => by obtain ⟨q0, q1, qP, qK, qD⟩ := q; exact ⟨q0, q1, qP, va_K.moved (u := U) (U := U.calling g mk a) (Vm.Alike.refl U.vm) qK, qD⟩, va_recv hKc hPc (ci := 4) (q0 := 0) rfl rfl, fun U hU hW => ⟨rfl, by rw [hU], by rw [hU]; exact hPc, va_K.moved hW.alike hKc, hDc.weaken (fun _ _ _ _ => trivial)⟩⟩ rfl rfl hl.1 rfl (lv_room (Nat.le_of_ble_eq_true rfl)) dX10_addStructure_46 ⟨(Nat.le_of_ble_eq_true rfl), (Nat.le_of_ble_eq_true rfl)⟩) hS (fun q _ h => hFc q h) hFc (fun r_381 u t H1 locs ht hvm hw hB hz1 hk1 hS => ?_)
  obtain ⟨hP1, hK1, hD1⟩ := hB
  rw [ht] at hP1
  have hK1 := va_K.moved hvm.symm hK1
  obtain ⟨hP, hD⟩ := va_join (wr := [(h0, .inr (15, [.ref a, v1, v2, v3, v4, .int 0])), (q_371, .inr (14, [f0_373, f1_374, f2_375, f3_376, f4_377, f5_378]))]) (w1 := [(a, .inr (4, [.int (m0 + 1), .ref qa_380, .int 1]))]) hP hD [2] [0, 1] rfl rfl (by decide) (by decide) hk1 hFc hP1 hD1
  have hK := (hK.sub (tys' := []) [] rfl).app hK1
  generalize H1 = H at hP hS ⊢
  have hP : va_P (dC, dI) vwCl [(h0, .inr (15, [.ref a, v1, v2, v3, v4, .int 0])), (q_371, .inr (14, [f0_373, f1_374, f2_375, f3_376, f4_377, f5_378])), (a, .inr (4, [.int (m0 + 1), .ref qa_380, .int 1]))] H := hP
  have hD : va_D A [(h0, .inr (15, [.ref a, v1, v2, v3, v4, .int 0])), (q_371, .inr (14, [f0_373, f1_374, f2_375, f3_376, f4_377, f5_378])), (a, .inr (4, [.int (m0 + 1), .ref qa_380, .int 1]))] := hD
  have hK : va_K (dC, dI) vwCl [] s := hK
  refine W.widen (k := 4) (n := 27) (Nat.le_of_ble_eq_true rfl) (Nat.le_of_ble_eq_true rfl) ?_
  have hw : r_381 = 1 := hw
  subst hw
  refine lv_iconst (v := 1) hx hb dX10_addStructure_49 (by decide) ?_
  refine lv_isub hx hb dX10_addStructure_50 ?_
  refine lv_numI (v := 0) (by decide) ?_
  have hP9 := hP.sub (ws' := [(h0, .inr (15, [.ref a, v1, v2, v3, v4, .int 0])), (a, .inr (4, [.int (m0 + 1), .ref qa_380, .int 1]))]) [0, 2] rfl
  have hD9 := hD.sub (ws' := [(h0, .inr (15, [.ref a, v1, v2, v3, v4, .int 0])), (a, .inr (4, [.int (m0 + 1), .ref qa_380, .int 1]))]) [0, 2] (by decide) rfl
  have hK9 := hK.sub (tys' := []) [] rfl
  refine W.widen (k := 4) (n := 27) (Nat.le_of_ble_eq_true rfl) (Nat.le_of_ble_eq_true rfl) ?_
  exact W.iret (v := 0) hx hb hr (fun t ht hW => ⟨⟨0, (), rfl, rfl, ⟨qa_380, by rw [ht]; exact hP9, va_K.moved hW.alike hK9, hD9⟩⟩, hS.F ht⟩) hS.2.2 dX10_addStructure_51
set_option maxHeartbeats 4000000 in
set_option maxRecDepth 100000 in
theorem z_wipe (l : Launch) (dC : Nat → ClassId) (dI : Nat → Nat → Nat) (sz : Nat) (h0 : Nat) (a : Nat) (b : Nat) (v0 : Value) (v1 : Value) (v2 : Value) (v3 : Value) (th : Int32) (m0 : Int32) : Met l yX10_wipe (pw_ws yX10_wipe cX10_wipe 2 (some .int)) ({ frames := 2, cells := 0, slots := 0, locals := 43 } : Room) (va_Pc [.ref h0] (fun U => U.heap.size = sz ∧ va_P (dC, dI) vwCl [(h0, .inr (15, [v0, v1, v2, v3, .ref a, .int th])), (a, .inr (4, [.int m0, .ref b, .int 0]))] U.heap ∧ va_K (dC, dI) vwCl [] U ∧ va_D (fun _ => True) [(h0, .inr (15, [v0, v1, v2, v3, .ref a, .int th])), (a, .inr (4, [.int m0, .ref b, .int 0]))])) (va_Qi (fun (r : Int32) (_ : Unit) => r = 0) (fun (_ : Unit) (t : State) => va_P (dC, dI) vwCl [(h0, .inr (15, [v0, v1, v2, v3, .ref a, .int 0])), (a, .inr (4, [.int (m0 + 1), .ref b, .int 0]))] t.heap ∧ va_K (dC, dI) vwCl [] t ∧ va_D (va_A [(h0, .inr (15, [v0, v1, v2, v3, .ref a, .int th])), (a, .inr (4, [.int m0, .ref b, .int 0]))] sz) [(h0, .inr (15, [v0, v1, v2, v3, .ref a, .int 0])), (a, .inr (4, [.int (m0 + 1), .ref b, .int 0]))]) (va_A [(h0, .inr (15, [v0, v1, v2, v3, .ref a, .int th])), (a, .inr (4, [.int m0, .ref b, .int 0]))] sz)) 0 0 (va_A [(h0, .inr (15, [v0, v1, v2, v3, .ref a, .int th])), (a, .inr (4, [.int m0, .ref b, .int 0]))] sz) := by
  refine Met.ofW (cc := cX10_wipe) (maxL := 2) (ret := (some .int)) (by decide) rfl ?_
  intro p e s m args below meth c s₁ B hml hv
  obtain ⟨rfl, hsz, hP, hK, hD0⟩ := hv
  have hx := B.exec
  have hb := B.bytes
  have hr := B.returns
  have hts0 := atoms_spec (ws := (pw_ws yX10_wipe cX10_wipe 2 (some .int))) B.pre
  have hts : ∀ w ∈ pw_all, w.before _ s = true := fun w h => hts0 w (List.mem_cons_of_mem _ h)
  have hown : s.vm.findClass RX10 = some m.cls := findClass_of_methodNamed B.named
  have hlocks := B.notSynchronized
  subst hsz
  have hD := hD0.self (sz := s.heap.size)
  generalize hAe : va_A [(h0, .inr (15, [v0, v1, v2, v3, .ref a, .int th])), (a, .inr (4, [.int m0, .ref b, .int 0]))] s.heap.size = A at hD ⊢
  have hA : ∀ q : Nat, s.heap.size ≤ q → A q := fun q h => by rw [← hAe]; exact Or.inr h
  have hS : va_S A s.heap s.heap [] := va_S.rf
  have hP : va_P (dC, dI) vwCl [(h0, .inr (15, [v0, v1, v2, v3, .ref a, .int th])), (a, .inr (4, [.int m0, .ref b, .int 0]))] s.heap := hP
  have hl := lv_entry ([.ref h0]) (n := 2) (Nat.le_of_ble_eq_true rfl)
  rw [lg_entry_eq]
  generalize (lg_sl ([.ref h0]) ++ List.replicate (2 - (lg_sl ([.ref h0])).length) Slot.unset).toArray = ls at hl ⊢
  have hl : lv_has ls 2 [(0, .ref h0)] := hl
  skip
  refine lv_aload_n hx hb dX10_wipe_0 rfl (lv_at hl 0 rfl) ?_
  refine lv_iconst (v := 0) hx hb dX10_wipe_1 (by decide) ?_
  refine va_put (D := (dC, dI)) (ci := 15) (v := .int 0) (ty := .int) (C := RX10) (T := TX10) (N := 6) hx hb hts inX10 tyX10 tyX10_ok nmX10 hown hK hP hD hS 0 rfl rfl 5 (by decide) (hts _ q1230) (fun _ h9 => h9) rfl (by decide +kernel) rfl rfl (Nat.le_of_ble_eq_true rfl) dX10_wipe_2 (fun H locs hP hD hS => ?_)
  have hP : va_P (dC, dI) vwCl [(h0, .inr (15, [v0, v1, v2, v3, .ref a, .int 0])), (a, .inr (4, [.int m0, .ref b, .int 0]))] H := hP
  have hD : va_D A [(h0, .inr (15, [v0, v1, v2, v3, .ref a, .int 0])), (a, .inr (4, [.int m0, .ref b, .int 0]))] := hD
  refine lv_aload_n hx hb dX10_wipe_5 rfl (lv_at hl 0 rfl) ?_
  refine va_get (D := (dC, dI)) (ci := 15) (v := .ref a) (C := RX10) (T := TX10) (N := 6) hx hb hts inX10 hown hK hP 0 rfl rfl 4 (by decide) (hts _ q1229) (fun _ h9 => h9) rfl dX10_wipe_6 ?_
  have hPc := hP.sub (ws' := [(a, .inr (4, [.int m0, .ref b, .int 0]))]) [1] rfl
  have hDc := hD.sub (ws' := [(a, .inr (4, [.int m0, .ref b, .int 0]))]) [1] (by decide) rfl
  have hKc := hK.sub (tys' := []) [] rfl
  have hFc := va_free (wc := [(a, .inr (4, [.int m0, .ref b, .int 0]))]) hD hS hA [1] rfl
  refine va_calli (va_runV (As := []) (rest := []) ⟨hx, hb, hml, hown, hts⟩ (m_size l dC dI H.size a (.int m0) (.ref b) 0) (cwV 0 hts (pw_V q1252 q274 q275 q46 q276) rfl rfl rfl (by decide +kernel) ⟨(Nat.le_of_ble_eq_true rfl), (Nat.le_of_ble_eq_true rfl)⟩) ⟨fun a U g mk q => by obtain ⟨q0, q1, qP, qK, qD⟩ := q; exact ⟨q0, q1, qP, va_K.moved (u := U) (U := U.calling g mk a) (Vm.Alike.refl U.vm) qK, qD⟩, va_recv hKc hPc (ci := 4) (q0 := 0) rfl rfl, fun U hU hW => ⟨rfl, by rw [hU], by rw [hU]; exact hPc, va_K.moved hW.alike hKc, hDc.weaken (fun _ _ _ _ => trivial)⟩⟩ rfl rfl hl.1 rfl (lv_room (Nat.le_of_ble_eq_true rfl)) dX10_wipe_9 ⟨(Nat.le_of_ble_eq_true rfl), (Nat.le_of_ble_eq_true rfl)⟩) hS (fun q _ h => hFc q h) hFc (fun r_382 u t H1 locs ht hvm hw hB hz1 hk1 hS => ?_)
  obtain ⟨hP1, hK1, hD1⟩ := hB
  rw [ht] at hP1
  have hK1 := va_K.moved hvm.symm hK1
  obtain ⟨hP, hD⟩ := va_join (wr := [(h0, .inr (15, [v0, v1, v2, v3, .ref a, .int 0]))]) (w1 := [(a, .inr (4, [.int m0, .ref b, .int 0]))]) hP hD [1] [0] rfl rfl (by decide) (by decide) hk1 hFc hP1 hD1
  have hK := (hK.sub (tys' := []) [] rfl).app hK1
  generalize H1 = H at hP hS ⊢
  have hP : va_P (dC, dI) vwCl [(h0, .inr (15, [v0, v1, v2, v3, .ref a, .int 0])), (a, .inr (4, [.int m0, .ref b, .int 0]))] H := hP
  have hD : va_D A [(h0, .inr (15, [v0, v1, v2, v3, .ref a, .int 0])), (a, .inr (4, [.int m0, .ref b, .int 0]))] := hD
  have hK : va_K (dC, dI) vwCl [] s := hK
  refine W.widen (k := 0) (n := 0) (Nat.le_of_ble_eq_true rfl) (Nat.le_of_ble_eq_true rfl) ?_
  have hw : r_382 = 0 := hw
  subst hw
  refine lv_istore_n (lv' := [(1, .int 0), (0, .ref h0)]) hx hb dX10_wipe_12 rfl hl (by decide) rfl (fun ls hl => ?_)
  refine lv_aload_n hx hb dX10_wipe_13 rfl (lv_at hl 1 rfl) ?_
  refine va_get (D := (dC, dI)) (ci := 15) (v := .ref a) (C := RX10) (T := TX10) (N := 6) hx hb hts inX10 hown hK hP 0 rfl rfl 4 (by decide) (hts _ q1229) (fun _ h9 => h9) rfl dX10_wipe_14 ?_
  have hPc := hP.sub (ws' := [(a, .inr (4, [.int m0, .ref b, .int 0]))]) [1] rfl
  have hDc := hD.sub (ws' := [(a, .inr (4, [.int m0, .ref b, .int 0]))]) [1] (by decide) rfl
  have hKc := hK.sub (tys' := []) [] rfl
  have hFc := va_free (wc := [(a, .inr (4, [.int m0, .ref b, .int 0]))]) hD hS hA [1] rfl
  refine va_callv (va_runV (As := []) (rest := []) ⟨hx, hb, hml, hown, hts⟩ (m_clear l dC dI H.size a b m0) (cwV 0 hts (pw_V q1994 q1995 q1996 q46 q1997) rfl rfl rfl (by decide +kernel) ⟨(Nat.le_of_ble_eq_true rfl), (Nat.le_of_ble_eq_true rfl)⟩) ⟨fun a U g mk q => by obtain ⟨q0, q1, qP, qK, qD⟩ := q; exact ⟨q0, q1, qP, va_K.moved (u := U) (U := U.calling g mk a) (Vm.Alike.refl U.vm) qK, qD⟩, va_recv hKc hPc (ci := 4) (q0 := 0) rfl rfl, fun U hU hW => ⟨rfl, by rw [hU], by rw [hU]; exact hPc, va_K.moved hW.alike hKc, hDc.weaken (fun _ _ _ _ => trivial)⟩⟩ rfl rfl hl.1 rfl (lv_room (Nat.le_of_ble_eq_true rfl)) dX10_wipe_17 ⟨(Nat.le_of_ble_eq_true rfl), (Nat.le_of_ble_eq_true rfl)⟩) hS (fun q _ h => hFc q h) hFc (fun u t H1 locs ht hvm hw hB hz1 hk1 hS => ?_)
  obtain ⟨hP1, hK1, hD1⟩ := hB
  rw [ht] at hP1
  have hK1 := va_K.moved hvm.symm hK1
  obtain ⟨hP, hD⟩ := va_join (wr := [(h0, .inr (15, [v0, v1, v2, v3, .ref a, .int 0]))]) (w1 := [(a, .inr (4, [.int (m0 + 1), .ref b, .int 0]))]) hP hD [1] [0] rfl rfl (by decide) (by decide) hk1 hFc hP1 hD1
  have hK := (hK.sub (tys' := []) [] rfl).app hK1
  generalize H1 = H at hP hS ⊢
  have hP : va_P (dC, dI) vwCl [(h0, .inr (15, [v0, v1, v2, v3, .ref a, .int 0])), (a, .inr (4, [.int (m0 + 1), .ref b, .int 0]))] H := hP
  have hD : va_D A [(h0, .inr (15, [v0, v1, v2, v3, .ref a, .int 0])), (a, .inr (4, [.int (m0 + 1), .ref b, .int 0]))] := hD
  have hK : va_K (dC, dI) vwCl [] s := hK
  refine W.widen (k := 0) (n := 0) (Nat.le_of_ble_eq_true rfl) (Nat.le_of_ble_eq_true rfl) ?_
  refine lv_iload_n hx hb dX10_wipe_20 rfl (lv_at hl 0 rfl) ?_
  have hP9 := hP.sub (ws' := [(h0, .inr (15, [v0, v1, v2, v3, .ref a, .int 0])), (a, .inr (4, [.int (m0 + 1), .ref b, .int 0]))]) [0, 1] rfl
  have hD9 := hD.sub (ws' := [(h0, .inr (15, [v0, v1, v2, v3, .ref a, .int 0])), (a, .inr (4, [.int (m0 + 1), .ref b, .int 0]))]) [0, 1] (by decide) rfl
  have hK9 := hK.sub (tys' := []) [] rfl
  refine W.widen (k := 0) (n := 0) (Nat.le_of_ble_eq_true rfl) (Nat.le_of_ble_eq_true rfl) ?_
  exact W.iret (v := 0) hx hb hr (fun t ht hW => ⟨⟨0, (), rfl, rfl, ⟨by rw [ht]; exact hP9, va_K.moved hW.alike hK9, hD9⟩⟩, hS.F ht⟩) hS.2.2 dX10_wipe_21
set_option maxHeartbeats 4000000 in
set_option maxRecDepth 100000 in
theorem z_spectrumBad (l : Launch) (dC : Nat → ClassId) (dI : Nat → Nat → Nat) (sz : Nat) (h0 : Nat) (a : Nat) (v0 : Value) (v1 : Value) (v2 : Value) (v3 : Value) (w0 : Value) (w1 : Value) (th : Int32) (p0 : Int32) (h1 : p0 < 4 ∨ 64 < p0) : Met l yX10_getSpectrum (pw_ws yX10_getSpectrum cX10_getSpectrum 6 (some .int)) ({ frames := 2, cells := 0, slots := 0, locals := 42 } : Room) (va_Pc [.ref h0, .int p0] (fun U => U.heap.size = sz ∧ va_P (dC, dI) vwCl [(h0, .inr (15, [v0, v1, v2, v3, .ref a, .int th])), (a, .inr (4, [w0, w1, .int 0]))] U.heap ∧ va_K (dC, dI) vwCl [] U ∧ va_D (fun _ => True) [(h0, .inr (15, [v0, v1, v2, v3, .ref a, .int th])), (a, .inr (4, [w0, w1, .int 0]))])) (va_Qi (fun (r : Int32) (_ : Unit) => r = 0) (fun (_ : Unit) (t : State) => va_P (dC, dI) vwCl [(h0, .inr (15, [v0, v1, v2, v3, .ref a, .int 1])), (a, .inr (4, [w0, w1, .int 0]))] t.heap ∧ va_K (dC, dI) vwCl [] t ∧ va_D (va_A [(h0, .inr (15, [v0, v1, v2, v3, .ref a, .int th])), (a, .inr (4, [w0, w1, .int 0]))] sz) [(h0, .inr (15, [v0, v1, v2, v3, .ref a, .int 1])), (a, .inr (4, [w0, w1, .int 0]))]) (va_A [(h0, .inr (15, [v0, v1, v2, v3, .ref a, .int th])), (a, .inr (4, [w0, w1, .int 0]))] sz)) 0 0 (va_A [(h0, .inr (15, [v0, v1, v2, v3, .ref a, .int th])), (a, .inr (4, [w0, w1, .int 0]))] sz) := by
  refine Met.ofW (cc := cX10_getSpectrum) (maxL := 6) (ret := (some .int)) (by decide) rfl ?_
  intro p e s m args below meth c s₁ B hml hv
  obtain ⟨rfl, hsz, hP, hK, hD0⟩ := hv
  have hx := B.exec
  have hb := B.bytes
  have hr := B.returns
  have hts0 := atoms_spec (ws := (pw_ws yX10_getSpectrum cX10_getSpectrum 6 (some .int))) B.pre
  have hts : ∀ w ∈ pw_all, w.before _ s = true := fun w h => hts0 w (List.mem_cons_of_mem _ h)
  have hown : s.vm.findClass RX10 = some m.cls := findClass_of_methodNamed B.named
  have hlocks := B.notSynchronized
  subst hsz
  have hD := hD0.self (sz := s.heap.size)
  generalize hAe : va_A [(h0, .inr (15, [v0, v1, v2, v3, .ref a, .int th])), (a, .inr (4, [w0, w1, .int 0]))] s.heap.size = A at hD ⊢
  have hA : ∀ q : Nat, s.heap.size ≤ q → A q := fun q h => by rw [← hAe]; exact Or.inr h
  have hS : va_S A s.heap s.heap [] := va_S.rf
  have hP : va_P (dC, dI) vwCl [(h0, .inr (15, [v0, v1, v2, v3, .ref a, .int th])), (a, .inr (4, [w0, w1, .int 0]))] s.heap := hP
  have hl := lv_entry ([.ref h0, .int p0]) (n := 6) (Nat.le_of_ble_eq_true rfl)
  rw [lg_entry_eq]
  generalize (lg_sl ([.ref h0, .int p0]) ++ List.replicate (6 - (lg_sl ([.ref h0, .int p0])).length) Slot.unset).toArray = ls at hl ⊢
  have hl : lv_has ls 6 [(0, .ref h0), (1, .int p0)] := hl
  skip
  refine lv_aload_n hx hb dX10_getSpectrum_0 rfl (lv_at hl 0 rfl) ?_
  refine lv_iload_n hx hb dX10_getSpectrum_1 rfl (lv_at hl 1 rfl) ?_
  refine lv_iconst (v := 4) hx hb dX10_getSpectrum_2 (by decide) ?_
  refine lv_bipush (v := 64) hx hb dX10_getSpectrum_3 (by decide) ?_
  have hPc := hP.sub (ws' := []) [] rfl
  have hDc := hD.sub (ws' := []) [] (by decide) rfl
  have hKc := hK.sub (tys' := []) [] rfl
  have hFc := va_free (wc := []) hD hS hA [] rfl
  refine va_calli (va_runS (As := [.int p0, .int 4, .int 64]) (rest := [.ref h0]) ⟨hx, hb, hml, hown, hts⟩ (n_isIn0 l dC dI s.heap.size p0 4 64 h1) (va_cwS 3 hts (pw_S q1299 q1300 q49 q1301) rfl rfl rfl (by decide +kernel) ⟨(Nat.le_of_ble_eq_true rfl), (Nat.le_of_ble_eq_true rfl)⟩) ⟨fun a U g mk q => by obtain ⟨q0, q1, qP, qK, qD⟩ := q; exact ⟨q0, q1, qP, va_K.moved (u := U) (U := U.calling g mk a) (Vm.Alike.refl U.vm) qK, qD⟩, fun U hU hW => ⟨rfl, by rw [hU], by rw [hU]; exact hPc, va_K.moved hW.alike hKc, hDc.weaken (fun _ _ _ _ => trivial)⟩⟩ rfl rfl hl.1 rfl (lv_room (Nat.le_of_ble_eq_true rfl)) dX10_getSpectrum_5 ⟨(Nat.le_of_ble_eq_true rfl), (Nat.le_of_ble_eq_true rfl)⟩) hS (fun q _ h => hFc q h) hFc (fun r_384 u t H1 locs ht hvm hw hB hz1 hk1 hS => ?_)
  obtain ⟨hP1, hK1, hD1⟩ := hB
  rw [ht] at hP1
  have hK1 := va_K.moved hvm.symm hK1
  obtain ⟨hP, hD⟩ := va_join (wr := [(h0, .inr (15, [v0, v1, v2, v3, .ref a, .int th])), (a, .inr (4, [w0, w1, .int 0]))]) (w1 := []) hP hD [] [0, 1] rfl rfl (by decide) (by decide) hk1 hFc hP1 hD1
  have hK := (hK.sub (tys' := []) [] rfl).app hK1
  generalize H1 = H at hP hS ⊢
  have hP : va_P (dC, dI) vwCl [(h0, .inr (15, [v0, v1, v2, v3, .ref a, .int th])), (a, .inr (4, [w0, w1, .int 0]))] H := hP
  have hD : va_D A [(h0, .inr (15, [v0, v1, v2, v3, .ref a, .int th])), (a, .inr (4, [w0, w1, .int 0]))] := hD
  have hK : va_K (dC, dI) vwCl [] s := hK
  refine W.widen (k := 0) (n := 0) (Nat.le_of_ble_eq_true rfl) (Nat.le_of_ble_eq_true rfl) ?_
  have hw : r_384 = 0 := hw
  subst hw
  refine lv_if_ne (tgt := 15) hx hb dX10_getSpectrum_8 (by decide) (fun c_385 => absurd (by decide) c_385) (fun c_385 => ?_)
  refine lv_iconst (v := 1) hx hb dX10_getSpectrum_11 (by decide) ?_
  refine lv_goto (tgt := 16) hx hb dX10_getSpectrum_12 (by decide) ?_
  refine lv_iconst (v := 1) hx hb dX10_getSpectrum_16 (by decide) ?_
  have hPc := hP.sub (ws' := [(h0, .inr (15, [v0, v1, v2, v3, .ref a, .int th]))]) [0] rfl
  have hDc := hD.sub (ws' := [(h0, .inr (15, [v0, v1, v2, v3, .ref a, .int th]))]) [0] (by decide) rfl
  have hKc := hK.sub (tys' := []) [] rfl
  have hFc := va_free (wc := [(h0, .inr (15, [v0, v1, v2, v3, .ref a, .int th]))]) hD hS hA [0] rfl
  refine va_calli (va_runV (As := [.int 1, .int 1]) (rest := []) ⟨hx, hb, hml, hown, hts⟩ (n_isThrown1 l dC dI H.size h0 v0 v1 v2 v3 (.ref a) th 1) (cwV 2 hts (pw_V q1253 q1255 q19 q49 q1256) rfl rfl rfl (by decide +kernel) ⟨(Nat.le_of_ble_eq_true rfl), (Nat.le_of_ble_eq_true rfl)⟩) ⟨fun a U g mk q => by obtain ⟨q0, q1, qP, qK, qD⟩ := q; exact ⟨q0, q1, qP, va_K.moved (u := U) (U := U.calling g mk a) (Vm.Alike.refl U.vm) qK, qD⟩, va_recv hKc hPc (ci := 15) (q0 := 0) rfl rfl, fun U hU hW => ⟨rfl, by rw [hU], by rw [hU]; exact hPc, va_K.moved hW.alike hKc, hDc.weaken (fun _ _ _ _ => trivial)⟩⟩ rfl rfl hl.1 rfl (lv_room (Nat.le_of_ble_eq_true rfl)) dX10_getSpectrum_17 ⟨(Nat.le_of_ble_eq_true rfl), (Nat.le_of_ble_eq_true rfl)⟩) hS (fun q _ h => hFc q h) hFc (fun r_386 u t H1 locs ht hvm hw hB hz1 hk1 hS => ?_)
  obtain ⟨hP1, hK1, hD1⟩ := hB
  rw [ht] at hP1
  have hK1 := va_K.moved hvm.symm hK1
  obtain ⟨hP, hD⟩ := va_join (wr := [(a, .inr (4, [w0, w1, .int 0]))]) (w1 := [(h0, .inr (15, [v0, v1, v2, v3, .ref a, .int 1]))]) hP hD [0] [1] rfl rfl (by decide) (by decide) hk1 hFc hP1 hD1
  have hK := (hK.sub (tys' := []) [] rfl).app hK1
  generalize H1 = H at hP hS ⊢
  have hP : va_P (dC, dI) vwCl [(a, .inr (4, [w0, w1, .int 0])), (h0, .inr (15, [v0, v1, v2, v3, .ref a, .int 1]))] H := hP
  have hD : va_D A [(a, .inr (4, [w0, w1, .int 0])), (h0, .inr (15, [v0, v1, v2, v3, .ref a, .int 1]))] := hD
  have hK : va_K (dC, dI) vwCl [] s := hK
  refine W.widen (k := 0) (n := 0) (Nat.le_of_ble_eq_true rfl) (Nat.le_of_ble_eq_true rfl) ?_
  have hw : r_386 = 1 := hw
  subst hw
  refine lv_if_ne (tgt := 38) hx hb dX10_getSpectrum_20 (by decide) (fun c_387 => ?_) (fun c_387 => absurd c_387 (by decide))
  refine lv_iconst (v := 0) hx hb dX10_getSpectrum_38 (by decide) ?_
  have hP9 := hP.sub (ws' := [(h0, .inr (15, [v0, v1, v2, v3, .ref a, .int 1])), (a, .inr (4, [w0, w1, .int 0]))]) [1, 0] rfl
  have hD9 := hD.sub (ws' := [(h0, .inr (15, [v0, v1, v2, v3, .ref a, .int 1])), (a, .inr (4, [w0, w1, .int 0]))]) [1, 0] (by decide) rfl
  have hK9 := hK.sub (tys' := []) [] rfl
  refine W.widen (k := 0) (n := 0) (Nat.le_of_ble_eq_true rfl) (Nat.le_of_ble_eq_true rfl) ?_
  exact W.iret (v := 0) hx hb hr (fun t ht hW => ⟨⟨0, (), rfl, rfl, ⟨by rw [ht]; exact hP9, va_K.moved hW.alike hK9, hD9⟩⟩, hS.F ht⟩) hS.2.2 dX10_getSpectrum_39
set_option maxHeartbeats 4000000 in
set_option maxRecDepth 100000 in
theorem z_spectrumOk (l : Launch) (dC : Nat → ClassId) (dI : Nat → Nat → Nat) (sz : Nat) (h0 : Nat) (a : Nat) (v0 : Value) (v1 : Value) (v2 : Value) (v3 : Value) (w0 : Value) (w1 : Value) (th : Int32) (p0 : Int32) (h1 : ¬ p0 < 4) (h2 : ¬ 64 < p0) : Met l yX10_getSpectrum (pw_ws yX10_getSpectrum cX10_getSpectrum 6 (some .int)) ({ frames := 2, cells := 0, slots := 0, locals := 42 } : Room) (va_Pc [.ref h0, .int p0] (fun U => U.heap.size = sz ∧ va_P (dC, dI) vwCl [(h0, .inr (15, [v0, v1, v2, v3, .ref a, .int th])), (a, .inr (4, [w0, w1, .int 0]))] U.heap ∧ va_K (dC, dI) vwCl [] U ∧ va_D (fun _ => True) [(h0, .inr (15, [v0, v1, v2, v3, .ref a, .int th])), (a, .inr (4, [w0, w1, .int 0]))])) (va_Qi (fun (r : Int32) (_ : Unit) => r = 0) (fun (_ : Unit) (t : State) => va_P (dC, dI) vwCl [(h0, .inr (15, [v0, v1, v2, v3, .ref a, .int 2])), (a, .inr (4, [w0, w1, .int 0]))] t.heap ∧ va_K (dC, dI) vwCl [] t ∧ va_D (va_A [(h0, .inr (15, [v0, v1, v2, v3, .ref a, .int th])), (a, .inr (4, [w0, w1, .int 0]))] sz) [(h0, .inr (15, [v0, v1, v2, v3, .ref a, .int 2])), (a, .inr (4, [w0, w1, .int 0]))]) (va_A [(h0, .inr (15, [v0, v1, v2, v3, .ref a, .int th])), (a, .inr (4, [w0, w1, .int 0]))] sz)) 0 0 (va_A [(h0, .inr (15, [v0, v1, v2, v3, .ref a, .int th])), (a, .inr (4, [w0, w1, .int 0]))] sz) := by
  refine Met.ofW (cc := cX10_getSpectrum) (maxL := 6) (ret := (some .int)) (by decide) rfl ?_
  intro p e s m args below meth c s₁ B hml hv
  obtain ⟨rfl, hsz, hP, hK, hD0⟩ := hv
  have hx := B.exec
  have hb := B.bytes
  have hr := B.returns
  have hts0 := atoms_spec (ws := (pw_ws yX10_getSpectrum cX10_getSpectrum 6 (some .int))) B.pre
  have hts : ∀ w ∈ pw_all, w.before _ s = true := fun w h => hts0 w (List.mem_cons_of_mem _ h)
  have hown : s.vm.findClass RX10 = some m.cls := findClass_of_methodNamed B.named
  have hlocks := B.notSynchronized
  subst hsz
  have hD := hD0.self (sz := s.heap.size)
  generalize hAe : va_A [(h0, .inr (15, [v0, v1, v2, v3, .ref a, .int th])), (a, .inr (4, [w0, w1, .int 0]))] s.heap.size = A at hD ⊢
  have hA : ∀ q : Nat, s.heap.size ≤ q → A q := fun q h => by rw [← hAe]; exact Or.inr h
  have hS : va_S A s.heap s.heap [] := va_S.rf
  have hP : va_P (dC, dI) vwCl [(h0, .inr (15, [v0, v1, v2, v3, .ref a, .int th])), (a, .inr (4, [w0, w1, .int 0]))] s.heap := hP
  have hl := lv_entry ([.ref h0, .int p0]) (n := 6) (Nat.le_of_ble_eq_true rfl)
  rw [lg_entry_eq]
  generalize (lg_sl ([.ref h0, .int p0]) ++ List.replicate (6 - (lg_sl ([.ref h0, .int p0])).length) Slot.unset).toArray = ls at hl ⊢
  have hl : lv_has ls 6 [(0, .ref h0), (1, .int p0)] := hl
  skip
  refine lv_aload_n hx hb dX10_getSpectrum_0 rfl (lv_at hl 0 rfl) ?_
  refine lv_iload_n hx hb dX10_getSpectrum_1 rfl (lv_at hl 1 rfl) ?_
  refine lv_iconst (v := 4) hx hb dX10_getSpectrum_2 (by decide) ?_
  refine lv_bipush (v := 64) hx hb dX10_getSpectrum_3 (by decide) ?_
  have hPc := hP.sub (ws' := []) [] rfl
  have hDc := hD.sub (ws' := []) [] (by decide) rfl
  have hKc := hK.sub (tys' := []) [] rfl
  have hFc := va_free (wc := []) hD hS hA [] rfl
  refine va_calli (va_runS (As := [.int p0, .int 4, .int 64]) (rest := [.ref h0]) ⟨hx, hb, hml, hown, hts⟩ (n_isIn1 l dC dI s.heap.size p0 4 64 h1 h2) (va_cwS 3 hts (pw_S q1299 q1300 q49 q1301) rfl rfl rfl (by decide +kernel) ⟨(Nat.le_of_ble_eq_true rfl), (Nat.le_of_ble_eq_true rfl)⟩) ⟨fun a U g mk q => by obtain ⟨q0, q1, qP, qK, qD⟩ := q; exact ⟨q0, q1, qP, va_K.moved (u := U) (U := U.calling g mk a) (Vm.Alike.refl U.vm) qK, qD⟩, fun U hU hW => ⟨rfl, by rw [hU], by rw [hU]; exact hPc, va_K.moved hW.alike hKc, hDc.weaken (fun _ _ _ _ => trivial)⟩⟩ rfl rfl hl.1 rfl (lv_room (Nat.le_of_ble_eq_true rfl)) dX10_getSpectrum_5 ⟨(Nat.le_of_ble_eq_true rfl), (Nat.le_of_ble_eq_true rfl)⟩) hS (fun q _ h => hFc q h) hFc (fun r_388 u t H1 locs ht hvm hw hB hz1 hk1 hS => ?_)
  obtain ⟨hP1, hK1, hD1⟩ := hB
  rw [ht] at hP1
  have hK1 := va_K.moved hvm.symm hK1
  obtain ⟨hP, hD⟩ := va_join (wr := [(h0, .inr (15, [v0, v1, v2, v3, .ref a, .int th])), (a, .inr (4, [w0, w1, .int 0]))]) (w1 := []) hP hD [] [0, 1] rfl rfl (by decide) (by decide) hk1 hFc hP1 hD1
  have hK := (hK.sub (tys' := []) [] rfl).app hK1
  generalize H1 = H at hP hS ⊢
  have hP : va_P (dC, dI) vwCl [(h0, .inr (15, [v0, v1, v2, v3, .ref a, .int th])), (a, .inr (4, [w0, w1, .int 0]))] H := hP
  have hD : va_D A [(h0, .inr (15, [v0, v1, v2, v3, .ref a, .int th])), (a, .inr (4, [w0, w1, .int 0]))] := hD
  have hK : va_K (dC, dI) vwCl [] s := hK
  refine W.widen (k := 0) (n := 0) (Nat.le_of_ble_eq_true rfl) (Nat.le_of_ble_eq_true rfl) ?_
  have hw : r_388 = 1 := hw
  subst hw
  refine lv_if_ne (tgt := 15) hx hb dX10_getSpectrum_8 (by decide) (fun c_389 => ?_) (fun c_389 => absurd c_389 (by decide))
  refine lv_iconst (v := 0) hx hb dX10_getSpectrum_15 (by decide) ?_
  refine lv_iconst (v := 1) hx hb dX10_getSpectrum_16 (by decide) ?_
  have hPc := hP.sub (ws' := [(h0, .inr (15, [v0, v1, v2, v3, .ref a, .int th]))]) [0] rfl
  have hDc := hD.sub (ws' := [(h0, .inr (15, [v0, v1, v2, v3, .ref a, .int th]))]) [0] (by decide) rfl
  have hKc := hK.sub (tys' := []) [] rfl
  have hFc := va_free (wc := [(h0, .inr (15, [v0, v1, v2, v3, .ref a, .int th]))]) hD hS hA [0] rfl
  refine va_calli (va_runV (As := [.int 0, .int 1]) (rest := []) ⟨hx, hb, hml, hown, hts⟩ (n_isThrown0 l dC dI H.size h0 v0 v1 v2 v3 (.ref a) th 1) (cwV 2 hts (pw_V q1253 q1255 q19 q49 q1256) rfl rfl rfl (by decide +kernel) ⟨(Nat.le_of_ble_eq_true rfl), (Nat.le_of_ble_eq_true rfl)⟩) ⟨fun a U g mk q => by obtain ⟨q0, q1, qP, qK, qD⟩ := q; exact ⟨q0, q1, qP, va_K.moved (u := U) (U := U.calling g mk a) (Vm.Alike.refl U.vm) qK, qD⟩, va_recv hKc hPc (ci := 15) (q0 := 0) rfl rfl, fun U hU hW => ⟨rfl, by rw [hU], by rw [hU]; exact hPc, va_K.moved hW.alike hKc, hDc.weaken (fun _ _ _ _ => trivial)⟩⟩ rfl rfl hl.1 rfl (lv_room (Nat.le_of_ble_eq_true rfl)) dX10_getSpectrum_17 ⟨(Nat.le_of_ble_eq_true rfl), (Nat.le_of_ble_eq_true rfl)⟩) hS (fun q _ h => hFc q h) hFc (fun r_390 u t H1 locs ht hvm hw hB hz1 hk1 hS => ?_)
  obtain ⟨hP1, hK1, hD1⟩ := hB
  rw [ht] at hP1
  have hK1 := va_K.moved hvm.symm hK1
  obtain ⟨hP, hD⟩ := va_join (wr := [(a, .inr (4, [w0, w1, .int 0]))]) (w1 := [(h0, .inr (15, [v0, v1, v2, v3, .ref a, .int 0]))]) hP hD [0] [1] rfl rfl (by decide) (by decide) hk1 hFc hP1 hD1
  have hK := (hK.sub (tys' := []) [] rfl).app hK1
  generalize H1 = H at hP hS ⊢
  have hP : va_P (dC, dI) vwCl [(a, .inr (4, [w0, w1, .int 0])), (h0, .inr (15, [v0, v1, v2, v3, .ref a, .int 0]))] H := hP
  have hD : va_D A [(a, .inr (4, [w0, w1, .int 0])), (h0, .inr (15, [v0, v1, v2, v3, .ref a, .int 0]))] := hD
  have hK : va_K (dC, dI) vwCl [] s := hK
  refine W.widen (k := 0) (n := 0) (Nat.le_of_ble_eq_true rfl) (Nat.le_of_ble_eq_true rfl) ?_
  have hw : r_390 = 0 := hw
  subst hw
  refine lv_if_ne (tgt := 38) hx hb dX10_getSpectrum_20 (by decide) (fun c_391 => absurd (by decide) c_391) (fun c_391 => ?_)
  refine lv_aload_n hx hb dX10_getSpectrum_23 rfl (lv_at hl 0 rfl) ?_
  refine lv_aload_n hx hb dX10_getSpectrum_24 rfl (lv_at hl 0 rfl) ?_
  refine va_get (D := (dC, dI)) (ci := 15) (v := .ref a) (C := RX10) (T := TX10) (N := 6) hx hb hts inX10 hown hK hP 1 rfl rfl 4 (by decide) (hts _ q1229) (fun _ h9 => h9) rfl dX10_getSpectrum_25 ?_
  have hPc := hP.sub (ws' := [(a, .inr (4, [w0, w1, .int 0]))]) [0] rfl
  have hDc := hD.sub (ws' := [(a, .inr (4, [w0, w1, .int 0]))]) [0] (by decide) rfl
  have hKc := hK.sub (tys' := []) [] rfl
  have hFc := va_free (wc := [(a, .inr (4, [w0, w1, .int 0]))]) hD hS hA [0] rfl
  refine va_calli (va_runV (As := []) (rest := [.ref h0]) ⟨hx, hb, hml, hown, hts⟩ (m_isEmpty l dC dI H.size a w0 w1) (cwV 0 hts (pw_V q1389 q1390 q1391 q46 q1392) rfl rfl rfl (by decide +kernel) ⟨(Nat.le_of_ble_eq_true rfl), (Nat.le_of_ble_eq_true rfl)⟩) ⟨fun a U g mk q => by obtain ⟨q0, q1, qP, qK, qD⟩ := q; exact ⟨q0, q1, qP, va_K.moved (u := U) (U := U.calling g mk a) (Vm.Alike.refl U.vm) qK, qD⟩, va_recv hKc hPc (ci := 4) (q0 := 0) rfl rfl, fun U hU hW => ⟨rfl, by rw [hU], by rw [hU]; exact hPc, va_K.moved hW.alike hKc, hDc.weaken (fun _ _ _ _ => trivial)⟩⟩ rfl rfl hl.1 rfl (lv_room (Nat.le_of_ble_eq_true rfl)) dX10_getSpectrum_28 ⟨(Nat.le_of_ble_eq_true rfl), (Nat.le_of_ble_eq_true rfl)⟩) hS (fun q _ h => hFc q h) hFc (fun r_392 u t H1 locs ht hvm hw hB hz1 hk1 hS => ?_)
  obtain ⟨hP1, hK1, hD1⟩ := hB
  rw [ht] at hP1
  have hK1 := va_K.moved hvm.symm hK1
  obtain ⟨hP, hD⟩ := va_join (wr := [(h0, .inr (15, [v0, v1, v2, v3, .ref a, .int 0]))]) (w1 := [(a, .inr (4, [w0, w1, .int 0]))]) hP hD [0] [1] rfl rfl (by decide) (by decide) hk1 hFc hP1 hD1
  have hK := (hK.sub (tys' := []) [] rfl).app hK1
  generalize H1 = H at hP hS ⊢
  have hP : va_P (dC, dI) vwCl [(h0, .inr (15, [v0, v1, v2, v3, .ref a, .int 0])), (a, .inr (4, [w0, w1, .int 0]))] H := hP
  have hD : va_D A [(h0, .inr (15, [v0, v1, v2, v3, .ref a, .int 0])), (a, .inr (4, [w0, w1, .int 0]))] := hD
  have hK : va_K (dC, dI) vwCl [] s := hK
  refine W.widen (k := 0) (n := 0) (Nat.le_of_ble_eq_true rfl) (Nat.le_of_ble_eq_true rfl) ?_
  have hw : r_392 = 1 := hw
  subst hw
  refine lv_iconst (v := 2) hx hb dX10_getSpectrum_31 (by decide) ?_
  have hPc := hP.sub (ws' := [(h0, .inr (15, [v0, v1, v2, v3, .ref a, .int 0]))]) [0] rfl
  have hDc := hD.sub (ws' := [(h0, .inr (15, [v0, v1, v2, v3, .ref a, .int 0]))]) [0] (by decide) rfl
  have hKc := hK.sub (tys' := []) [] rfl
  have hFc := va_free (wc := [(h0, .inr (15, [v0, v1, v2, v3, .ref a, .int 0]))]) hD hS hA [0] rfl
  refine va_calli (va_runV (As := [.int 1, .int 2]) (rest := []) ⟨hx, hb, hml, hown, hts⟩ (n_isThrown1 l dC dI H.size h0 v0 v1 v2 v3 (.ref a) 0 2) (cwV 2 hts (pw_V q1253 q1255 q19 q49 q1256) rfl rfl rfl (by decide +kernel) ⟨(Nat.le_of_ble_eq_true rfl), (Nat.le_of_ble_eq_true rfl)⟩) ⟨fun a U g mk q => by obtain ⟨q0, q1, qP, qK, qD⟩ := q; exact ⟨q0, q1, qP, va_K.moved (u := U) (U := U.calling g mk a) (Vm.Alike.refl U.vm) qK, qD⟩, va_recv hKc hPc (ci := 15) (q0 := 0) rfl rfl, fun U hU hW => ⟨rfl, by rw [hU], by rw [hU]; exact hPc, va_K.moved hW.alike hKc, hDc.weaken (fun _ _ _ _ => trivial)⟩⟩ rfl rfl hl.1 rfl (lv_room (Nat.le_of_ble_eq_true rfl)) dX10_getSpectrum_32 ⟨(Nat.le_of_ble_eq_true rfl), (Nat.le_of_ble_eq_true rfl)⟩) hS (fun q _ h => hFc q h) hFc (fun r_393 u t H1 locs ht hvm hw hB hz1 hk1 hS => ?_)
  obtain ⟨hP1, hK1, hD1⟩ := hB
  rw [ht] at hP1
  have hK1 := va_K.moved hvm.symm hK1
  obtain ⟨hP, hD⟩ := va_join (wr := [(a, .inr (4, [w0, w1, .int 0]))]) (w1 := [(h0, .inr (15, [v0, v1, v2, v3, .ref a, .int 2]))]) hP hD [0] [1] rfl rfl (by decide) (by decide) hk1 hFc hP1 hD1
  have hK := (hK.sub (tys' := []) [] rfl).app hK1
  generalize H1 = H at hP hS ⊢
  have hP : va_P (dC, dI) vwCl [(a, .inr (4, [w0, w1, .int 0])), (h0, .inr (15, [v0, v1, v2, v3, .ref a, .int 2]))] H := hP
  have hD : va_D A [(a, .inr (4, [w0, w1, .int 0])), (h0, .inr (15, [v0, v1, v2, v3, .ref a, .int 2]))] := hD
  have hK : va_K (dC, dI) vwCl [] s := hK
  refine W.widen (k := 0) (n := 0) (Nat.le_of_ble_eq_true rfl) (Nat.le_of_ble_eq_true rfl) ?_
  have hw : r_393 = 1 := hw
  subst hw
  refine lv_if_eq (tgt := 40) hx hb dX10_getSpectrum_35 (by decide) (fun c_394 => absurd c_394 (by decide)) (fun c_394 => ?_)
  refine lv_iconst (v := 0) hx hb dX10_getSpectrum_38 (by decide) ?_
  have hP9 := hP.sub (ws' := [(h0, .inr (15, [v0, v1, v2, v3, .ref a, .int 2])), (a, .inr (4, [w0, w1, .int 0]))]) [1, 0] rfl
  have hD9 := hD.sub (ws' := [(h0, .inr (15, [v0, v1, v2, v3, .ref a, .int 2])), (a, .inr (4, [w0, w1, .int 0]))]) [1, 0] (by decide) rfl
  have hK9 := hK.sub (tys' := []) [] rfl
  refine W.widen (k := 0) (n := 0) (Nat.le_of_ble_eq_true rfl) (Nat.le_of_ble_eq_true rfl) ?_
  exact W.iret (v := 0) hx hb hr (fun t ht hW => ⟨⟨0, (), rfl, rfl, ⟨by rw [ht]; exact hP9, va_K.moved hW.alike hK9, hD9⟩⟩, hS.F ht⟩) hS.2.2 dX10_getSpectrum_39
set_option maxHeartbeats 4000000 in
set_option maxRecDepth 100000 in
theorem z_typeBad (l : Launch) (dC : Nat → ClassId) (dI : Nat → Nat → Nat) (sz : Nat) (h0 : Nat) (v0 : Value) (v1 : Value) (v2 : Value) (v3 : Value) (v4 : Value) (th : Int32) (p0 : Int32) (h1 : p0 < (-99999) ∨ 99999 < p0) : Met l yX10_type (pw_ws yX10_type cX10_type 2 (some .int)) ({ frames := 2, cells := 0, slots := 0, locals := 42 } : Room) (va_Pc [.ref h0, .int p0] (fun U => U.heap.size = sz ∧ va_P (dC, dI) vwCl [(h0, .inr (15, [v0, v1, v2, v3, v4, .int th]))] U.heap ∧ va_K (dC, dI) vwCl [] U ∧ va_D (fun _ => True) [(h0, .inr (15, [v0, v1, v2, v3, v4, .int th]))])) (va_Qi (fun (r : Int32) (_ : Unit) => r = 0) (fun (_ : Unit) (t : State) => va_P (dC, dI) vwCl [(h0, .inr (15, [v0, v1, v2, v3, v4, .int 1]))] t.heap ∧ va_K (dC, dI) vwCl [] t ∧ va_D (va_A [(h0, .inr (15, [v0, v1, v2, v3, v4, .int th]))] sz) [(h0, .inr (15, [v0, v1, v2, v3, v4, .int 1]))]) (va_A [(h0, .inr (15, [v0, v1, v2, v3, v4, .int th]))] sz)) 0 0 (va_A [(h0, .inr (15, [v0, v1, v2, v3, v4, .int th]))] sz) := by
  refine Met.ofW (cc := cX10_type) (maxL := 2) (ret := (some .int)) (by decide) rfl ?_
  intro p e s m args below meth c s₁ B hml hv
  obtain ⟨rfl, hsz, hP, hK, hD0⟩ := hv
  have hx := B.exec
  have hb := B.bytes
  have hr := B.returns
  have hts0 := atoms_spec (ws := (pw_ws yX10_type cX10_type 2 (some .int))) B.pre
  have hts : ∀ w ∈ pw_all, w.before _ s = true := fun w h => hts0 w (List.mem_cons_of_mem _ h)
  have hown : s.vm.findClass RX10 = some m.cls := findClass_of_methodNamed B.named
  have hlocks := B.notSynchronized
  subst hsz
  have hD := hD0.self (sz := s.heap.size)
  generalize hAe : va_A [(h0, .inr (15, [v0, v1, v2, v3, v4, .int th]))] s.heap.size = A at hD ⊢
  have hA : ∀ q : Nat, s.heap.size ≤ q → A q := fun q h => by rw [← hAe]; exact Or.inr h
  have hS : va_S A s.heap s.heap [] := va_S.rf
  have hP : va_P (dC, dI) vwCl [(h0, .inr (15, [v0, v1, v2, v3, v4, .int th]))] s.heap := hP
  have hl := lv_entry ([.ref h0, .int p0]) (n := 2) (Nat.le_of_ble_eq_true rfl)
  rw [lg_entry_eq]
  generalize (lg_sl ([.ref h0, .int p0]) ++ List.replicate (2 - (lg_sl ([.ref h0, .int p0])).length) Slot.unset).toArray = ls at hl ⊢
  have hl : lv_has ls 2 [(0, .ref h0), (1, .int p0)] := hl
  skip
  refine lv_aload_n hx hb dX10_type_0 rfl (lv_at hl 0 rfl) ?_
  refine lv_iload_n hx hb dX10_type_1 rfl (lv_at hl 1 rfl) ?_
  refine lv_ldcw (v := -99999) hx hb hown (hts _ q1969) dX10_type_2 ?_
  refine lv_ldc (v := 99999) hx hb hown (hts _ q1443) dX10_type_5 ?_
  have hPc := hP.sub (ws' := []) [] rfl
  have hDc := hD.sub (ws' := []) [] (by decide) rfl
  have hKc := hK.sub (tys' := []) [] rfl
  have hFc := va_free (wc := []) hD hS hA [] rfl
  refine va_calli (va_runS (As := [.int p0, .int (-99999), .int 99999]) (rest := [.ref h0]) ⟨hx, hb, hml, hown, hts⟩ (n_isIn0 l dC dI s.heap.size p0 (-99999) 99999 h1) (va_cwS 3 hts (pw_S q1299 q1300 q49 q1301) rfl rfl rfl (by decide +kernel) ⟨(Nat.le_of_ble_eq_true rfl), (Nat.le_of_ble_eq_true rfl)⟩) ⟨fun a U g mk q => by obtain ⟨q0, q1, qP, qK, qD⟩ := q; exact ⟨q0, q1, qP, va_K.moved (u := U) (U := U.calling g mk a) (Vm.Alike.refl U.vm) qK, qD⟩, fun U hU hW => ⟨rfl, by rw [hU], by rw [hU]; exact hPc, va_K.moved hW.alike hKc, hDc.weaken (fun _ _ _ _ => trivial)⟩⟩ rfl rfl hl.1 rfl (lv_room (Nat.le_of_ble_eq_true rfl)) dX10_type_7 ⟨(Nat.le_of_ble_eq_true rfl), (Nat.le_of_ble_eq_true rfl)⟩) hS (fun q _ h => hFc q h) hFc (fun r_395 u t H1 locs ht hvm hw hB hz1 hk1 hS => ?_)
  obtain ⟨hP1, hK1, hD1⟩ := hB
  rw [ht] at hP1
  have hK1 := va_K.moved hvm.symm hK1
  obtain ⟨hP, hD⟩ := va_join (wr := [(h0, .inr (15, [v0, v1, v2, v3, v4, .int th]))]) (w1 := []) hP hD [] [0] rfl rfl (by decide) (by decide) hk1 hFc hP1 hD1
  have hK := (hK.sub (tys' := []) [] rfl).app hK1
  generalize H1 = H at hP hS ⊢
  have hP : va_P (dC, dI) vwCl [(h0, .inr (15, [v0, v1, v2, v3, v4, .int th]))] H := hP
  have hD : va_D A [(h0, .inr (15, [v0, v1, v2, v3, v4, .int th]))] := hD
  have hK : va_K (dC, dI) vwCl [] s := hK
  refine W.widen (k := 0) (n := 0) (Nat.le_of_ble_eq_true rfl) (Nat.le_of_ble_eq_true rfl) ?_
  have hw : r_395 = 0 := hw
  subst hw
  refine lv_if_ne (tgt := 17) hx hb dX10_type_10 (by decide) (fun c_396 => absurd (by decide) c_396) (fun c_396 => ?_)
  refine lv_iconst (v := 1) hx hb dX10_type_13 (by decide) ?_
  refine lv_goto (tgt := 18) hx hb dX10_type_14 (by decide) ?_
  refine lv_iconst (v := 1) hx hb dX10_type_18 (by decide) ?_
  have hPc := hP.sub (ws' := [(h0, .inr (15, [v0, v1, v2, v3, v4, .int th]))]) [0] rfl
  have hDc := hD.sub (ws' := [(h0, .inr (15, [v0, v1, v2, v3, v4, .int th]))]) [0] (by decide) rfl
  have hKc := hK.sub (tys' := []) [] rfl
  have hFc := va_free (wc := [(h0, .inr (15, [v0, v1, v2, v3, v4, .int th]))]) hD hS hA [0] rfl
  refine va_calli (va_runV (As := [.int 1, .int 1]) (rest := []) ⟨hx, hb, hml, hown, hts⟩ (n_isThrown1 l dC dI H.size h0 v0 v1 v2 v3 v4 th 1) (cwV 2 hts (pw_V q1253 q1255 q19 q49 q1256) rfl rfl rfl (by decide +kernel) ⟨(Nat.le_of_ble_eq_true rfl), (Nat.le_of_ble_eq_true rfl)⟩) ⟨fun a U g mk q => by obtain ⟨q0, q1, qP, qK, qD⟩ := q; exact ⟨q0, q1, qP, va_K.moved (u := U) (U := U.calling g mk a) (Vm.Alike.refl U.vm) qK, qD⟩, va_recv hKc hPc (ci := 15) (q0 := 0) rfl rfl, fun U hU hW => ⟨rfl, by rw [hU], by rw [hU]; exact hPc, va_K.moved hW.alike hKc, hDc.weaken (fun _ _ _ _ => trivial)⟩⟩ rfl rfl hl.1 rfl (lv_room (Nat.le_of_ble_eq_true rfl)) dX10_type_19 ⟨(Nat.le_of_ble_eq_true rfl), (Nat.le_of_ble_eq_true rfl)⟩) hS (fun q _ h => hFc q h) hFc (fun r_397 u t H1 locs ht hvm hw hB hz1 hk1 hS => ?_)
  obtain ⟨hP1, hK1, hD1⟩ := hB
  rw [ht] at hP1
  have hK1 := va_K.moved hvm.symm hK1
  obtain ⟨hP, hD⟩ := va_join (wr := []) (w1 := [(h0, .inr (15, [v0, v1, v2, v3, v4, .int 1]))]) hP hD [0] [] rfl rfl (by decide) (by decide) hk1 hFc hP1 hD1
  have hK := (hK.sub (tys' := []) [] rfl).app hK1
  generalize H1 = H at hP hS ⊢
  have hP : va_P (dC, dI) vwCl [(h0, .inr (15, [v0, v1, v2, v3, v4, .int 1]))] H := hP
  have hD : va_D A [(h0, .inr (15, [v0, v1, v2, v3, v4, .int 1]))] := hD
  have hK : va_K (dC, dI) vwCl [] s := hK
  refine W.widen (k := 0) (n := 0) (Nat.le_of_ble_eq_true rfl) (Nat.le_of_ble_eq_true rfl) ?_
  have hw : r_397 = 1 := hw
  subst hw
  refine lv_if_ne (tgt := 50) hx hb dX10_type_22 (by decide) (fun c_398 => ?_) (fun c_398 => absurd c_398 (by decide))
  refine lv_iconst (v := 0) hx hb dX10_type_50 (by decide) ?_
  have hP9 := hP.sub (ws' := [(h0, .inr (15, [v0, v1, v2, v3, v4, .int 1]))]) [0] rfl
  have hD9 := hD.sub (ws' := [(h0, .inr (15, [v0, v1, v2, v3, v4, .int 1]))]) [0] (by decide) rfl
  have hK9 := hK.sub (tys' := []) [] rfl
  refine W.widen (k := 0) (n := 0) (Nat.le_of_ble_eq_true rfl) (Nat.le_of_ble_eq_true rfl) ?_
  exact W.iret (v := 0) hx hb hr (fun t ht hW => ⟨⟨0, (), rfl, rfl, ⟨by rw [ht]; exact hP9, va_K.moved hW.alike hK9, hD9⟩⟩, hS.F ht⟩) hS.2.2 dX10_type_51
set_option maxHeartbeats 4000000 in
set_option maxRecDepth 100000 in
theorem z_isSound (l : Launch) (dC : Nat → ClassId) (dI : Nat → Nat → Nat) (sz : Nat) (h0 : Nat) (v0 : Value) (v1 : Value) (v2 : Value) (v3 : Value) (v4 : Value) (th : Int32) : Met l yX10_isSound (pw_ws yX10_isSound cX10_isSound 1 (some .boolean)) ({ frames := 1, cells := 0, slots := 0, locals := 20 } : Room) (va_Pc [.ref h0] (fun U => U.heap.size = sz ∧ va_P (dC, dI) vwCl [(h0, .inr (15, [v0, v1, v2, v3, v4, .int th]))] U.heap ∧ va_K (dC, dI) vwCl [] U ∧ va_D (fun _ => True) [(h0, .inr (15, [v0, v1, v2, v3, v4, .int th]))])) (va_Qi (fun (r : Int32) (_ : Unit) => r = 1) (fun (_ : Unit) (t : State) => va_P (dC, dI) vwCl [(h0, .inr (15, [v0, v1, v2, v3, v4, .int 0]))] t.heap ∧ va_K (dC, dI) vwCl [] t ∧ va_D (va_A [(h0, .inr (15, [v0, v1, v2, v3, v4, .int th]))] sz) [(h0, .inr (15, [v0, v1, v2, v3, v4, .int 0]))]) (va_A [(h0, .inr (15, [v0, v1, v2, v3, v4, .int th]))] sz)) 0 0 (va_A [(h0, .inr (15, [v0, v1, v2, v3, v4, .int th]))] sz) := by
  refine Met.ofW (cc := cX10_isSound) (maxL := 1) (ret := (some .boolean)) (by decide) rfl ?_
  intro p e s m args below meth c s₁ B hml hv
  obtain ⟨rfl, hsz, hP, hK, hD0⟩ := hv
  have hx := B.exec
  have hb := B.bytes
  have hr := B.returns
  have hts0 := atoms_spec (ws := (pw_ws yX10_isSound cX10_isSound 1 (some .boolean))) B.pre
  have hts : ∀ w ∈ pw_all, w.before _ s = true := fun w h => hts0 w (List.mem_cons_of_mem _ h)
  have hown : s.vm.findClass RX10 = some m.cls := findClass_of_methodNamed B.named
  have hlocks := B.notSynchronized
  subst hsz
  have hD := hD0.self (sz := s.heap.size)
  generalize hAe : va_A [(h0, .inr (15, [v0, v1, v2, v3, v4, .int th]))] s.heap.size = A at hD ⊢
  have hA : ∀ q : Nat, s.heap.size ≤ q → A q := fun q h => by rw [← hAe]; exact Or.inr h
  have hS : va_S A s.heap s.heap [] := va_S.rf
  have hP : va_P (dC, dI) vwCl [(h0, .inr (15, [v0, v1, v2, v3, v4, .int th]))] s.heap := hP
  have hl := lv_entry ([.ref h0]) (n := 1) (Nat.le_of_ble_eq_true rfl)
  rw [lg_entry_eq]
  generalize (lg_sl ([.ref h0]) ++ List.replicate (1 - (lg_sl ([.ref h0])).length) Slot.unset).toArray = ls at hl ⊢
  have hl : lv_has ls 1 [(0, .ref h0)] := hl
  skip
  refine lv_aload_n hx hb dX10_isSound_0 rfl (lv_at hl 0 rfl) ?_
  refine lv_iconst (v := 0) hx hb dX10_isSound_1 (by decide) ?_
  refine va_put (D := (dC, dI)) (ci := 15) (v := .int 0) (ty := .int) (C := RX10) (T := TX10) (N := 6) hx hb hts inX10 tyX10 tyX10_ok nmX10 hown hK hP hD hS 0 rfl rfl 5 (by decide) (hts _ q1230) (fun _ h9 => h9) rfl (by decide +kernel) rfl rfl (Nat.le_of_ble_eq_true rfl) dX10_isSound_2 (fun H locs hP hD hS => ?_)
  have hP : va_P (dC, dI) vwCl [(h0, .inr (15, [v0, v1, v2, v3, v4, .int 0]))] H := hP
  have hD : va_D A [(h0, .inr (15, [v0, v1, v2, v3, v4, .int 0]))] := hD
  refine lv_iconst (v := 1) hx hb dX10_isSound_5 (by decide) ?_
  have hP9 := hP.sub (ws' := [(h0, .inr (15, [v0, v1, v2, v3, v4, .int 0]))]) [0] rfl
  have hD9 := hD.sub (ws' := [(h0, .inr (15, [v0, v1, v2, v3, v4, .int 0]))]) [0] (by decide) rfl
  have hK9 := hK.sub (tys' := []) [] rfl
  refine W.widen (k := 0) (n := 0) (Nat.le_of_ble_eq_true rfl) (Nat.le_of_ble_eq_true rfl) ?_
  exact W.zret (v := 1) hx hb hr (by decide) (fun t ht hW => ⟨⟨1, (), rfl, rfl, ⟨by rw [ht]; exact hP9, va_K.moved hW.alike hK9, hD9⟩⟩, hS.F ht⟩) hS.2.2 dX10_isSound_6
set_option maxHeartbeats 4000000 in
set_option maxRecDepth 100000 in
theorem n_turns (l : Launch) (dC : Nat → ClassId) (dI : Nat → Nat → Nat) (sz : Nat) (ed : Nat) (a : Nat) (m0 : Int32) (w1 : Value) : Met l yX10_turns (pw_ws yX10_turns cX10_turns 5 (some (.object "java/util/ArrayList"))) ({ frames := 4, cells := 2, slots := 7, locals := 80 } : Room) (va_Pc [.ref a] (fun U => U.heap.size = sz ∧ va_P (dC, dI) vwCl [(a, .inr (4, [.int m0, w1, .int 0]))] U.heap ∧ va_K (dC, dI) vwCl [] U ∧ va_D (fun _ => True) [(a, .inr (4, [.int m0, w1, .int 0]))] ∧ pz ed (va_A [(a, .inr (4, [.int m0, w1, .int 0]))] sz) U U.heap)) (va_Qr (fun (_ : Unit) => True) (fun (_ : Unit) (ra : Nat) (t : State) => va_P (dC, dI) vwCl [(ra, .inr (4, [.int 0, .ref ed, .int 0])), (a, .inr (4, [.int m0, w1, .int 0]))] t.heap ∧ va_K (dC, dI) vwCl [] t ∧ va_D (va_A [(a, .inr (4, [.int m0, w1, .int 0]))] sz) [(ra, .inr (4, [.int 0, .ref ed, .int 0])), (a, .inr (4, [.int m0, w1, .int 0]))]) (va_A [(a, .inr (4, [.int m0, w1, .int 0]))] sz)) 2 7 (va_A [(a, .inr (4, [.int m0, w1, .int 0]))] sz) := by
  refine Met.ofW (cc := cX10_turns) (maxL := 5) (ret := (some (.object "java/util/ArrayList"))) (by decide) rfl ?_
  intro p e s m args below meth c s₁ B hml hv
  obtain ⟨rfl, hsz, hP, hK, hD0, hZ⟩ := hv
  have hx := B.exec
  have hb := B.bytes
  have hr := B.returns
  have hts0 := atoms_spec (ws := (pw_ws yX10_turns cX10_turns 5 (some (.object "java/util/ArrayList")))) B.pre
  have hts : ∀ w ∈ pw_all, w.before _ s = true := fun w h => hts0 w (List.mem_cons_of_mem _ h)
  have hown : s.vm.findClass RX10 = some m.cls := findClass_of_methodNamed B.named
  have hlocks := B.notSynchronized
  subst hsz
  have hD := hD0.self (sz := s.heap.size)
  generalize hAe : va_A [(a, .inr (4, [.int m0, w1, .int 0]))] s.heap.size = A at hD hZ ⊢
  have hA : ∀ q : Nat, s.heap.size ≤ q → A q := fun q h => by rw [← hAe]; exact Or.inr h
  have hS : va_S A s.heap s.heap [] := va_S.rf
  have hP : va_P (dC, dI) vwCl [(a, .inr (4, [.int m0, w1, .int 0]))] s.heap := hP
  have hl := lv_entry ([.ref a]) (n := 5) (Nat.le_of_ble_eq_true rfl)
  rw [lg_entry_eq]
  generalize (lg_sl ([.ref a]) ++ List.replicate (5 - (lg_sl ([.ref a])).length) Slot.unset).toArray = ls at hl ⊢
  have hl : lv_has ls 5 [(0, .ref a)] := hl
  skip
  refine va_new (ci := 4) (fs := [.int 0, .null, .int 0]) (C := RJx4a65c) (T := TJx4a65c) (N := 3) hx hb hts inJx4a65c tyJx4a65c tyJx4a65c_ok hown (hts _ q1223) (hts _ q89) (hts _ q46) hK hP hD hS hA rfl (fun j hj => by rcases (show j = 0 ∨ j = 1 ∨ j = 2 by omega) with rfl | rfl | rfl <;> rfl) (Nat.le_of_ble_eq_true rfl) (Nat.le_of_ble_eq_true rfl) dX10_turns_0 (fun q_399 H hP hD hS => ?_)
  have hP : va_P (dC, dI) vwCl [(a, .inr (4, [.int m0, w1, .int 0])), (q_399, .inr (4, [.int 0, .null, .int 0]))] H := hP
  have hD : va_D A [(a, .inr (4, [.int m0, w1, .int 0])), (q_399, .inr (4, [.int 0, .null, .int 0]))] := hD
  refine W.widen (k := 1) (n := 3) (Nat.le_of_ble_eq_true rfl) (Nat.le_of_ble_eq_true rfl) ?_
  refine lv_dup hx hb dX10_turns_3 rfl ?_
  have hPc := hP.sub (ws' := [(q_399, .inr (4, [.int 0, .null, .int 0]))]) [1] rfl
  have hDc := hD.sub (ws' := [(q_399, .inr (4, [.int 0, .null, .int 0]))]) [1] (by decide) rfl
  have hKc := hK.sub (tys' := []) [] rfl
  have hFc := va_free (wc := [(q_399, .inr (4, [.int 0, .null, .int 0]))]) hD hS hA [1] rfl
  refine va_callv (va_runI (As := []) (rest := [.ref q_399]) ⟨hx, hb, hml, hown, hts⟩ (m_listInit l dC dI H.size ed q_399 (.int 0) .null 0) (cwI 0 hts (pw_c q92) rfl rfl rfl (hts _ q46) (hts _ q1224) (hts _ q91) rfl (by decide +kernel) ⟨(Nat.le_of_ble_eq_true rfl), (Nat.le_of_ble_eq_true rfl)⟩) ⟨fun a U g mk q => by obtain ⟨q0, q1, qP, qK, qD, qZ⟩ := q; exact ⟨q0, q1, qP, va_K.moved (u := U) (U := U.calling g mk a) (Vm.Alike.refl U.vm) qK, qD, qZ.same rfl⟩, fun U hU hW => ⟨rfl, by rw [hU], by rw [hU]; exact hPc, va_K.moved hW.alike hKc, hDc.weaken (fun _ _ _ _ => trivial), hZ.call hS hFc hU hW⟩⟩ rfl rfl hl.1 rfl (lv_room (Nat.le_of_ble_eq_true rfl)) dX10_turns_4 ⟨(Nat.le_of_ble_eq_true rfl), (Nat.le_of_ble_eq_true rfl)⟩) hS (fun q _ h => hFc q h) hFc (fun u t H1 locs ht hvm hw hB hz1 hk1 hS => ?_)
  obtain ⟨hP1, hK1, hD1⟩ := hB
  rw [ht] at hP1
  have hK1 := va_K.moved hvm.symm hK1
  obtain ⟨hP, hD⟩ := va_join (wr := [(a, .inr (4, [.int m0, w1, .int 0]))]) (w1 := [(q_399, .inr (4, [.int 0, .ref ed, .int 0]))]) hP hD [1] [0] rfl rfl (by decide) (by decide) hk1 hFc hP1 hD1
  have hK := (hK.sub (tys' := []) [] rfl).app hK1
  generalize H1 = H at hP hS ⊢
  have hP : va_P (dC, dI) vwCl [(a, .inr (4, [.int m0, w1, .int 0])), (q_399, .inr (4, [.int 0, .ref ed, .int 0]))] H := hP
  have hD : va_D A [(a, .inr (4, [.int m0, w1, .int 0])), (q_399, .inr (4, [.int 0, .ref ed, .int 0]))] := hD
  have hK : va_K (dC, dI) vwCl [] s := hK
  refine W.widen (k := 1) (n := 3) (Nat.le_of_ble_eq_true rfl) (Nat.le_of_ble_eq_true rfl) ?_
  refine lv_astore_n (lv' := [(1, .ref q_399), (0, .ref a)]) hx hb dX10_turns_7 rfl hl (by decide) rfl (fun ls hl => ?_)
  refine lv_aload_n hx hb dX10_turns_8 rfl (lv_at hl 1 rfl) ?_
  have hPc := hP.sub (ws' := [(a, .inr (4, [.int m0, w1, .int 0]))]) [0] rfl
  have hDc := hD.sub (ws' := [(a, .inr (4, [.int m0, w1, .int 0]))]) [0] (by decide) rfl
  have hKc := hK.sub (tys' := []) [] rfl
  have hFc := va_free (wc := [(a, .inr (4, [.int m0, w1, .int 0]))]) hD hS hA [0] rfl
  refine va_callr (va_runV (As := []) (rest := []) ⟨hx, hb, hml, hown, hts⟩ (m_iterator l dC dI H.size a m0 w1 (.int 0)) (cwV 0 hts (pw_V q1522 q1523 q1524 q46 q1525) rfl rfl rfl (by decide +kernel) ⟨(Nat.le_of_ble_eq_true rfl), (Nat.le_of_ble_eq_true rfl)⟩) ⟨fun a U g mk q => by obtain ⟨q0, q1, qP, qK, qD⟩ := q; exact ⟨q0, q1, qP, va_K.moved (u := U) (U := U.calling g mk a) (Vm.Alike.refl U.vm) qK, qD⟩, va_recv hKc hPc (ci := 4) (q0 := 0) rfl rfl, fun U hU hW => ⟨rfl, by rw [hU], by rw [hU]; exact hPc, va_K.moved hW.alike hKc, hDc.weaken (fun _ _ _ _ => trivial)⟩⟩ rfl rfl hl.1 rfl (lv_room (Nat.le_of_ble_eq_true rfl)) dX10_turns_9 ⟨(Nat.le_of_ble_eq_true rfl), (Nat.le_of_ble_eq_true rfl)⟩) hS (fun q _ h => hFc q h) hFc (fun u r_401 t H1 locs ht hvm hw hB hz1 hk1 hS => ?_)
  obtain ⟨hP1, hK1, hD1⟩ := hB
  rw [ht] at hP1
  have hK1 := va_K.moved hvm.symm hK1
  obtain ⟨hP, hD⟩ := va_join (wr := [(q_399, .inr (4, [.int 0, .ref ed, .int 0]))]) (w1 := [(r_401, .inr (3, [.int 0, .int (-1), .int m0, .ref a])), (a, .inr (4, [.int m0, w1, .int 0]))]) hP hD [0] [1] rfl rfl (by decide) (by decide) hk1 hFc hP1 hD1
  have hK := (hK.sub (tys' := []) [] rfl).app hK1
  generalize H1 = H at hP hS ⊢
  have hP : va_P (dC, dI) vwCl [(q_399, .inr (4, [.int 0, .ref ed, .int 0])), (r_401, .inr (3, [.int 0, .int (-1), .int m0, .ref a])), (a, .inr (4, [.int m0, w1, .int 0]))] H := hP
  have hD : va_D A [(q_399, .inr (4, [.int 0, .ref ed, .int 0])), (r_401, .inr (3, [.int 0, .int (-1), .int m0, .ref a])), (a, .inr (4, [.int m0, w1, .int 0]))] := hD
  have hK : va_K (dC, dI) vwCl [] s := hK
  refine W.widen (k := 2) (n := 7) (Nat.le_of_ble_eq_true rfl) (Nat.le_of_ble_eq_true rfl) ?_
  refine lv_astore_n (lv' := [(2, .ref r_401), (1, .ref q_399), (0, .ref a)]) hx hb dX10_turns_12 rfl hl (by decide) rfl (fun ls hl => ?_)
  refine lv_aload_n hx hb dX10_turns_13 rfl (lv_at hl 0 rfl) ?_
  have hPc := hP.sub (ws' := [(r_401, .inr (3, [.int 0, .int (-1), .int m0, .ref a])), (a, .inr (4, [.int m0, w1, .int 0]))]) [1, 2] rfl
  have hDc := hD.sub (ws' := [(r_401, .inr (3, [.int 0, .int (-1), .int m0, .ref a])), (a, .inr (4, [.int m0, w1, .int 0]))]) [1, 2] (by decide) rfl
  have hKc := hK.sub (tys' := []) [] rfl
  have hFc := va_free (wc := [(r_401, .inr (3, [.int 0, .int (-1), .int m0, .ref a])), (a, .inr (4, [.int m0, w1, .int 0]))]) hD hS hA [1, 2] rfl
  refine va_callFi (va_runF (As := []) (rest := []) (hKc.1 3 _ rfl).2 ⟨hx, hb, hml, hown, hts⟩ (m_hasNext l dC dI H.size ed r_401 a (.int (-1)) (.int m0) (.int m0) w1) (va_cwF 0 hts (pw_F q1546 q1550 q1552 q70 q1554) rfl rfl rfl hZ.iter (by decide +kernel) ⟨(Nat.le_of_ble_eq_true rfl), (Nat.le_of_ble_eq_true rfl)⟩) ⟨fun a U g mk q => by obtain ⟨q0, q1, qP, qK, qD, qZ⟩ := q; exact ⟨q0, q1, qP, va_K.moved (u := U) (U := U.calling g mk a) (Vm.Alike.refl U.vm) qK, qD, qZ.same rfl⟩, va_recv hKc hPc (ci := 3) (q0 := 0) rfl rfl, fun U hU hW => ⟨rfl, by rw [hU], by rw [hU]; exact hPc, va_K.moved hW.alike hKc, hDc.weaken (fun _ _ _ _ => trivial), hZ.call hS hFc hU hW⟩⟩ rfl rfl hl.1 rfl (lv_room (Nat.le_of_ble_eq_true rfl)) dX10_turns_14 ⟨(Nat.le_of_ble_eq_true rfl), (Nat.le_of_ble_eq_true rfl)⟩) hS (fun q _ h => hFc q h) hFc (fun r_402 u t H1 locs ht hvm hw hB hz1 hk1 hS => ?_)
  obtain ⟨hP1, hK1, hD1⟩ := hB
  rw [ht] at hP1
  have hK1 := va_K.moved hvm.symm hK1
  obtain ⟨hP, hD⟩ := va_join (wr := [(q_399, .inr (4, [.int 0, .ref ed, .int 0]))]) (w1 := [(r_401, .inr (3, [.int 0, .int (-1), .int m0, .ref a])), (a, .inr (4, [.int m0, w1, .int 0]))]) hP hD [1, 2] [0] rfl rfl (by decide) (by decide) hk1 hFc hP1 hD1
  have hK := (hK.sub (tys' := []) [] rfl).app hK1
  generalize H1 = H at hP hS ⊢
  have hP : va_P (dC, dI) vwCl [(q_399, .inr (4, [.int 0, .ref ed, .int 0])), (r_401, .inr (3, [.int 0, .int (-1), .int m0, .ref a])), (a, .inr (4, [.int m0, w1, .int 0]))] H := hP
  have hD : va_D A [(q_399, .inr (4, [.int 0, .ref ed, .int 0])), (r_401, .inr (3, [.int 0, .int (-1), .int m0, .ref a])), (a, .inr (4, [.int m0, w1, .int 0]))] := hD
  have hK : va_K (dC, dI) vwCl [] s := hK
  refine W.widen (k := 2) (n := 7) (Nat.le_of_ble_eq_true rfl) (Nat.le_of_ble_eq_true rfl) ?_
  have hw : r_402 = 0 := hw
  subst hw
  refine lv_if_eq (tgt := 160) hx hb dX10_turns_19 (by decide) (fun c_403 => ?_) (fun c_403 => absurd (by decide) c_403)
  refine lv_aload_n hx hb dX10_turns_160 rfl (lv_at hl 1 rfl) ?_
  have hP9 := hP.sub (ws' := [(q_399, .inr (4, [.int 0, .ref ed, .int 0])), (a, .inr (4, [.int m0, w1, .int 0]))]) [0, 2] rfl
  have hD9 := hD.sub (ws' := [(q_399, .inr (4, [.int 0, .ref ed, .int 0])), (a, .inr (4, [.int m0, w1, .int 0]))]) [0, 2] (by decide) rfl
  have hK9 := hK.sub (tys' := []) [] rfl
  refine W.widen (k := 2) (n := 7) (Nat.le_of_ble_eq_true rfl) (Nat.le_of_ble_eq_true rfl) ?_
  exact W.aret (v := .ref q_399) hx hb hr (by first | exact Or.inl ⟨_, rfl⟩ | exact Or.inr ⟨_, rfl⟩) (Or.inr ⟨_, rfl⟩) (fun t ht hW => ⟨⟨(), q_399, rfl, trivial, ⟨by rw [ht]; exact hP9, va_K.moved hW.alike hK9, hD9⟩⟩, hS.F ht⟩) hS.2.2 dX10_turns_161
set_option maxHeartbeats 4000000 in
set_option maxRecDepth 100000 in
theorem n_rains (l : Launch) (dC : Nat → ClassId) (dI : Nat → Nat → Nat) (sz : Nat) (ed : Nat) (a : Nat) (cy : Nat) (m0 : Int32) (w1 : Value) : Met l yX10_rains (pw_ws yX10_rains cX10_rains 7 (some (.object "java/util/ArrayList"))) ({ frames := 5, cells := 4, slots := 14, locals := 104 } : Room) (va_Pc [.ref a, .ref cy] (fun U => U.heap.size = sz ∧ va_P (dC, dI) vwCl [(a, .inr (4, [.int m0, w1, .int 0]))] U.heap ∧ va_K (dC, dI) vwCl [] U ∧ va_D (fun _ => True) [(a, .inr (4, [.int m0, w1, .int 0]))] ∧ pz ed (va_A [(a, .inr (4, [.int m0, w1, .int 0]))] sz) U U.heap)) (va_Qr (fun (_ : Unit) => True) (fun (_ : Unit) (ra : Nat) (t : State) => va_P (dC, dI) vwCl [(ra, .inr (4, [.int 0, .ref ed, .int 0])), (a, .inr (4, [.int m0, w1, .int 0]))] t.heap ∧ va_K (dC, dI) vwCl [] t ∧ va_D (va_A [(a, .inr (4, [.int m0, w1, .int 0]))] sz) [(ra, .inr (4, [.int 0, .ref ed, .int 0])), (a, .inr (4, [.int m0, w1, .int 0]))]) (va_A [(a, .inr (4, [.int m0, w1, .int 0]))] sz)) 4 14 (va_A [(a, .inr (4, [.int m0, w1, .int 0]))] sz) := by
  refine Met.ofW (cc := cX10_rains) (maxL := 7) (ret := (some (.object "java/util/ArrayList"))) (by decide) rfl ?_
  intro p e s m args below meth c s₁ B hml hv
  obtain ⟨rfl, hsz, hP, hK, hD0, hZ⟩ := hv
  have hx := B.exec
  have hb := B.bytes
  have hr := B.returns
  have hts0 := atoms_spec (ws := (pw_ws yX10_rains cX10_rains 7 (some (.object "java/util/ArrayList")))) B.pre
  have hts : ∀ w ∈ pw_all, w.before _ s = true := fun w h => hts0 w (List.mem_cons_of_mem _ h)
  have hown : s.vm.findClass RX10 = some m.cls := findClass_of_methodNamed B.named
  have hlocks := B.notSynchronized
  subst hsz
  have hD := hD0.self (sz := s.heap.size)
  generalize hAe : va_A [(a, .inr (4, [.int m0, w1, .int 0]))] s.heap.size = A at hD hZ ⊢
  have hA : ∀ q : Nat, s.heap.size ≤ q → A q := fun q h => by rw [← hAe]; exact Or.inr h
  have hS : va_S A s.heap s.heap [] := va_S.rf
  have hP : va_P (dC, dI) vwCl [(a, .inr (4, [.int m0, w1, .int 0]))] s.heap := hP
  have hl := lv_entry ([.ref a, .ref cy]) (n := 7) (Nat.le_of_ble_eq_true rfl)
  rw [lg_entry_eq]
  generalize (lg_sl ([.ref a, .ref cy]) ++ List.replicate (7 - (lg_sl ([.ref a, .ref cy])).length) Slot.unset).toArray = ls at hl ⊢
  have hl : lv_has ls 7 [(0, .ref a), (1, .ref cy)] := hl
  skip
  refine va_new (ci := 4) (fs := [.int 0, .null, .int 0]) (C := RJx4a65c) (T := TJx4a65c) (N := 3) hx hb hts inJx4a65c tyJx4a65c tyJx4a65c_ok hown (hts _ q1223) (hts _ q89) (hts _ q46) hK hP hD hS hA rfl (fun j hj => by rcases (show j = 0 ∨ j = 1 ∨ j = 2 by omega) with rfl | rfl | rfl <;> rfl) (Nat.le_of_ble_eq_true rfl) (Nat.le_of_ble_eq_true rfl) dX10_rains_0 (fun q_404 H hP hD hS => ?_)
  have hP : va_P (dC, dI) vwCl [(a, .inr (4, [.int m0, w1, .int 0])), (q_404, .inr (4, [.int 0, .null, .int 0]))] H := hP
  have hD : va_D A [(a, .inr (4, [.int m0, w1, .int 0])), (q_404, .inr (4, [.int 0, .null, .int 0]))] := hD
  refine W.widen (k := 1) (n := 3) (Nat.le_of_ble_eq_true rfl) (Nat.le_of_ble_eq_true rfl) ?_
  refine lv_dup hx hb dX10_rains_3 rfl ?_
  have hPc := hP.sub (ws' := [(q_404, .inr (4, [.int 0, .null, .int 0]))]) [1] rfl
  have hDc := hD.sub (ws' := [(q_404, .inr (4, [.int 0, .null, .int 0]))]) [1] (by decide) rfl
  have hKc := hK.sub (tys' := []) [] rfl
  have hFc := va_free (wc := [(q_404, .inr (4, [.int 0, .null, .int 0]))]) hD hS hA [1] rfl
  refine va_callv (va_runI (As := []) (rest := [.ref q_404]) ⟨hx, hb, hml, hown, hts⟩ (m_listInit l dC dI H.size ed q_404 (.int 0) .null 0) (cwI 0 hts (pw_c q92) rfl rfl rfl (hts _ q46) (hts _ q1224) (hts _ q91) rfl (by decide +kernel) ⟨(Nat.le_of_ble_eq_true rfl), (Nat.le_of_ble_eq_true rfl)⟩) ⟨fun a U g mk q => by obtain ⟨q0, q1, qP, qK, qD, qZ⟩ := q; exact ⟨q0, q1, qP, va_K.moved (u := U) (U := U.calling g mk a) (Vm.Alike.refl U.vm) qK, qD, qZ.same rfl⟩, fun U hU hW => ⟨rfl, by rw [hU], by rw [hU]; exact hPc, va_K.moved hW.alike hKc, hDc.weaken (fun _ _ _ _ => trivial), hZ.call hS hFc hU hW⟩⟩ rfl rfl hl.1 rfl (lv_room (Nat.le_of_ble_eq_true rfl)) dX10_rains_4 ⟨(Nat.le_of_ble_eq_true rfl), (Nat.le_of_ble_eq_true rfl)⟩) hS (fun q _ h => hFc q h) hFc (fun u t H1 locs ht hvm hw hB hz1 hk1 hS => ?_)
  obtain ⟨hP1, hK1, hD1⟩ := hB
  rw [ht] at hP1
  have hK1 := va_K.moved hvm.symm hK1
  obtain ⟨hP, hD⟩ := va_join (wr := [(a, .inr (4, [.int m0, w1, .int 0]))]) (w1 := [(q_404, .inr (4, [.int 0, .ref ed, .int 0]))]) hP hD [1] [0] rfl rfl (by decide) (by decide) hk1 hFc hP1 hD1
  have hK := (hK.sub (tys' := []) [] rfl).app hK1
  generalize H1 = H at hP hS ⊢
  have hP : va_P (dC, dI) vwCl [(a, .inr (4, [.int m0, w1, .int 0])), (q_404, .inr (4, [.int 0, .ref ed, .int 0]))] H := hP
  have hD : va_D A [(a, .inr (4, [.int m0, w1, .int 0])), (q_404, .inr (4, [.int 0, .ref ed, .int 0]))] := hD
  have hK : va_K (dC, dI) vwCl [] s := hK
  refine W.widen (k := 1) (n := 3) (Nat.le_of_ble_eq_true rfl) (Nat.le_of_ble_eq_true rfl) ?_
  refine lv_astore_n (lv' := [(2, .ref q_404), (0, .ref a), (1, .ref cy)]) hx hb dX10_rains_7 rfl hl (by decide) rfl (fun ls hl => ?_)
  refine lv_aload_n hx hb dX10_rains_8 rfl (lv_at hl 1 rfl) ?_
  have hPc := hP.sub (ws' := [(a, .inr (4, [.int m0, w1, .int 0]))]) [0] rfl
  have hDc := hD.sub (ws' := [(a, .inr (4, [.int m0, w1, .int 0]))]) [0] (by decide) rfl
  have hKc := hK.sub (tys' := []) [] rfl
  have hFc := va_free (wc := [(a, .inr (4, [.int m0, w1, .int 0]))]) hD hS hA [0] rfl
  refine va_callr (va_runS (As := [.ref a]) (rest := []) ⟨hx, hb, hml, hown, hts⟩ (n_turns l dC dI H.size ed a m0 w1) (va_cwS 1 hts (pw_S q2017 q2018 q49 q2019) rfl rfl rfl (by decide +kernel) ⟨(Nat.le_of_ble_eq_true rfl), (Nat.le_of_ble_eq_true rfl)⟩) ⟨fun a U g mk q => by obtain ⟨q0, q1, qP, qK, qD, qZ⟩ := q; exact ⟨q0, q1, qP, va_K.moved (u := U) (U := U.calling g mk a) (Vm.Alike.refl U.vm) qK, qD, qZ.same rfl⟩, fun U hU hW => ⟨rfl, by rw [hU], by rw [hU]; exact hPc, va_K.moved hW.alike hKc, hDc.weaken (fun _ _ _ _ => trivial), hZ.call hS hFc hU hW⟩⟩ rfl rfl hl.1 rfl (lv_room (Nat.le_of_ble_eq_true rfl)) dX10_rains_9 ⟨(Nat.le_of_ble_eq_true rfl), (Nat.le_of_ble_eq_true rfl)⟩) hS (fun q _ h => hFc q h) hFc (fun u r_406 t H1 locs ht hvm hw hB hz1 hk1 hS => ?_)
  obtain ⟨hP1, hK1, hD1⟩ := hB
  rw [ht] at hP1
  have hK1 := va_K.moved hvm.symm hK1
  obtain ⟨hP, hD⟩ := va_join (wr := [(q_404, .inr (4, [.int 0, .ref ed, .int 0]))]) (w1 := [(r_406, .inr (4, [.int 0, .ref ed, .int 0])), (a, .inr (4, [.int m0, w1, .int 0]))]) hP hD [0] [1] rfl rfl (by decide) (by decide) hk1 hFc hP1 hD1
  have hK := (hK.sub (tys' := []) [] rfl).app hK1
  generalize H1 = H at hP hS ⊢
  have hP : va_P (dC, dI) vwCl [(q_404, .inr (4, [.int 0, .ref ed, .int 0])), (r_406, .inr (4, [.int 0, .ref ed, .int 0])), (a, .inr (4, [.int m0, w1, .int 0]))] H := hP
  have hD : va_D A [(q_404, .inr (4, [.int 0, .ref ed, .int 0])), (r_406, .inr (4, [.int 0, .ref ed, .int 0])), (a, .inr (4, [.int m0, w1, .int 0]))] := hD
  have hK : va_K (dC, dI) vwCl [] s := hK
  refine W.widen (k := 3) (n := 10) (Nat.le_of_ble_eq_true rfl) (Nat.le_of_ble_eq_true rfl) ?_
  have hPc := hP.sub (ws' := [(r_406, .inr (4, [.int 0, .ref ed, .int 0]))]) [1] rfl
  have hDc := hD.sub (ws' := [(r_406, .inr (4, [.int 0, .ref ed, .int 0]))]) [1] (by decide) rfl
  have hKc := hK.sub (tys' := []) [] rfl
  have hFc := va_free (wc := [(r_406, .inr (4, [.int 0, .ref ed, .int 0]))]) hD hS hA [1] rfl
  refine va_callr (va_runV (As := []) (rest := []) ⟨hx, hb, hml, hown, hts⟩ (m_iterator l dC dI H.size r_406 0 (.ref ed) (.int 0)) (cwV 0 hts (pw_V q1522 q1523 q1524 q46 q1525) rfl rfl rfl (by decide +kernel) ⟨(Nat.le_of_ble_eq_true rfl), (Nat.le_of_ble_eq_true rfl)⟩) ⟨fun a U g mk q => by obtain ⟨q0, q1, qP, qK, qD⟩ := q; exact ⟨q0, q1, qP, va_K.moved (u := U) (U := U.calling g mk a) (Vm.Alike.refl U.vm) qK, qD⟩, va_recv hKc hPc (ci := 4) (q0 := 0) rfl rfl, fun U hU hW => ⟨rfl, by rw [hU], by rw [hU]; exact hPc, va_K.moved hW.alike hKc, hDc.weaken (fun _ _ _ _ => trivial)⟩⟩ rfl rfl hl.1 rfl (lv_room (Nat.le_of_ble_eq_true rfl)) dX10_rains_12 ⟨(Nat.le_of_ble_eq_true rfl), (Nat.le_of_ble_eq_true rfl)⟩) hS (fun q _ h => hFc q h) hFc (fun u r_407 t H1 locs ht hvm hw hB hz1 hk1 hS => ?_)
  obtain ⟨hP1, hK1, hD1⟩ := hB
  rw [ht] at hP1
  have hK1 := va_K.moved hvm.symm hK1
  obtain ⟨hP, hD⟩ := va_join (wr := [(q_404, .inr (4, [.int 0, .ref ed, .int 0])), (a, .inr (4, [.int m0, w1, .int 0]))]) (w1 := [(r_407, .inr (3, [.int 0, .int (-1), .int 0, .ref r_406])), (r_406, .inr (4, [.int 0, .ref ed, .int 0]))]) hP hD [1] [0, 2] rfl rfl (by decide) (by decide) hk1 hFc hP1 hD1
  have hK := (hK.sub (tys' := []) [] rfl).app hK1
  generalize H1 = H at hP hS ⊢
  have hP : va_P (dC, dI) vwCl [(q_404, .inr (4, [.int 0, .ref ed, .int 0])), (a, .inr (4, [.int m0, w1, .int 0])), (r_407, .inr (3, [.int 0, .int (-1), .int 0, .ref r_406])), (r_406, .inr (4, [.int 0, .ref ed, .int 0]))] H := hP
  have hD : va_D A [(q_404, .inr (4, [.int 0, .ref ed, .int 0])), (a, .inr (4, [.int m0, w1, .int 0])), (r_407, .inr (3, [.int 0, .int (-1), .int 0, .ref r_406])), (r_406, .inr (4, [.int 0, .ref ed, .int 0]))] := hD
  have hK : va_K (dC, dI) vwCl [] s := hK
  refine W.widen (k := 4) (n := 14) (Nat.le_of_ble_eq_true rfl) (Nat.le_of_ble_eq_true rfl) ?_
  refine lv_astore_n (lv' := [(3, .ref r_407), (2, .ref q_404), (0, .ref a), (1, .ref cy)]) hx hb dX10_rains_15 rfl hl (by decide) rfl (fun ls hl => ?_)
  refine lv_aload_n hx hb dX10_rains_16 rfl (lv_at hl 0 rfl) ?_
  have hPc := hP.sub (ws' := [(r_407, .inr (3, [.int 0, .int (-1), .int 0, .ref r_406])), (r_406, .inr (4, [.int 0, .ref ed, .int 0]))]) [2, 3] rfl
  have hDc := hD.sub (ws' := [(r_407, .inr (3, [.int 0, .int (-1), .int 0, .ref r_406])), (r_406, .inr (4, [.int 0, .ref ed, .int 0]))]) [2, 3] (by decide) rfl
  have hKc := hK.sub (tys' := []) [] rfl
  have hFc := va_free (wc := [(r_407, .inr (3, [.int 0, .int (-1), .int 0, .ref r_406])), (r_406, .inr (4, [.int 0, .ref ed, .int 0]))]) hD hS hA [2, 3] rfl
  refine va_callFi (va_runF (As := []) (rest := []) (hKc.1 3 _ rfl).2 ⟨hx, hb, hml, hown, hts⟩ (m_hasNext l dC dI H.size ed r_407 r_406 (.int (-1)) (.int 0) (.int 0) (.ref ed)) (va_cwF 0 hts (pw_F q1546 q1550 q1552 q70 q1554) rfl rfl rfl hZ.iter (by decide +kernel) ⟨(Nat.le_of_ble_eq_true rfl), (Nat.le_of_ble_eq_true rfl)⟩) ⟨fun a U g mk q => by obtain ⟨q0, q1, qP, qK, qD, qZ⟩ := q; exact ⟨q0, q1, qP, va_K.moved (u := U) (U := U.calling g mk a) (Vm.Alike.refl U.vm) qK, qD, qZ.same rfl⟩, va_recv hKc hPc (ci := 3) (q0 := 0) rfl rfl, fun U hU hW => ⟨rfl, by rw [hU], by rw [hU]; exact hPc, va_K.moved hW.alike hKc, hDc.weaken (fun _ _ _ _ => trivial), hZ.call hS hFc hU hW⟩⟩ rfl rfl hl.1 rfl (lv_room (Nat.le_of_ble_eq_true rfl)) dX10_rains_17 ⟨(Nat.le_of_ble_eq_true rfl), (Nat.le_of_ble_eq_true rfl)⟩) hS (fun q _ h => hFc q h) hFc (fun r_408 u t H1 locs ht hvm hw hB hz1 hk1 hS => ?_)
  obtain ⟨hP1, hK1, hD1⟩ := hB
  rw [ht] at hP1
  have hK1 := va_K.moved hvm.symm hK1
  obtain ⟨hP, hD⟩ := va_join (wr := [(q_404, .inr (4, [.int 0, .ref ed, .int 0])), (a, .inr (4, [.int m0, w1, .int 0]))]) (w1 := [(r_407, .inr (3, [.int 0, .int (-1), .int 0, .ref r_406])), (r_406, .inr (4, [.int 0, .ref ed, .int 0]))]) hP hD [2, 3] [0, 1] rfl rfl (by decide) (by decide) hk1 hFc hP1 hD1
  have hK := (hK.sub (tys' := []) [] rfl).app hK1
  generalize H1 = H at hP hS ⊢
  have hP : va_P (dC, dI) vwCl [(q_404, .inr (4, [.int 0, .ref ed, .int 0])), (a, .inr (4, [.int m0, w1, .int 0])), (r_407, .inr (3, [.int 0, .int (-1), .int 0, .ref r_406])), (r_406, .inr (4, [.int 0, .ref ed, .int 0]))] H := hP
  have hD : va_D A [(q_404, .inr (4, [.int 0, .ref ed, .int 0])), (a, .inr (4, [.int m0, w1, .int 0])), (r_407, .inr (3, [.int 0, .int (-1), .int 0, .ref r_406])), (r_406, .inr (4, [.int 0, .ref ed, .int 0]))] := hD
  have hK : va_K (dC, dI) vwCl [] s := hK
  refine W.widen (k := 4) (n := 14) (Nat.le_of_ble_eq_true rfl) (Nat.le_of_ble_eq_true rfl) ?_
  have hw : r_408 = 0 := hw
  subst hw
  refine lv_if_eq (tgt := 140) hx hb dX10_rains_22 (by decide) (fun c_409 => ?_) (fun c_409 => absurd (by decide) c_409)
  refine lv_aload_n hx hb dX10_rains_140 rfl (lv_at hl 1 rfl) ?_
  have hP9 := hP.sub (ws' := [(q_404, .inr (4, [.int 0, .ref ed, .int 0])), (a, .inr (4, [.int m0, w1, .int 0]))]) [0, 1] rfl
  have hD9 := hD.sub (ws' := [(q_404, .inr (4, [.int 0, .ref ed, .int 0])), (a, .inr (4, [.int m0, w1, .int 0]))]) [0, 1] (by decide) rfl
  have hK9 := hK.sub (tys' := []) [] rfl
  refine W.widen (k := 4) (n := 14) (Nat.le_of_ble_eq_true rfl) (Nat.le_of_ble_eq_true rfl) ?_
  exact W.aret (v := .ref q_404) hx hb hr (by first | exact Or.inl ⟨_, rfl⟩ | exact Or.inr ⟨_, rfl⟩) (Or.inr ⟨_, rfl⟩) (fun t ht hW => ⟨⟨(), q_404, rfl, trivial, ⟨by rw [ht]; exact hP9, va_K.moved hW.alike hK9, hD9⟩⟩, hS.F ht⟩) hS.2.2 dX10_rains_141
set_option maxHeartbeats 4000000 in
set_option maxRecDepth 100000 in
theorem z_countCycles (l : Launch) (dC : Nat → ClassId) (dI : Nat → Nat → Nat) (sz : Nat) (ed : Nat) (h0 : Nat) (a : Nat) (v0 : Value) (v1 : Value) (v2 : Value) (v3 : Value) (th : Int32) (m0 : Int32) (w1 : Value) : Met l yX10_countCycles (pw_ws yX10_countCycles cX10_countCycles 3 (some .int)) ({ frames := 6, cells := 5, slots := 17, locals := 130 } : Room) (va_Pc [.ref h0] (fun U => U.heap.size = sz ∧ va_P (dC, dI) vwCl [(h0, .inr (15, [v0, v1, v2, v3, .ref a, .int th])), (a, .inr (4, [.int m0, w1, .int 0]))] U.heap ∧ va_K (dC, dI) vwCl [] U ∧ va_D (fun _ => True) [(h0, .inr (15, [v0, v1, v2, v3, .ref a, .int th])), (a, .inr (4, [.int m0, w1, .int 0]))] ∧ pz ed (va_A [(h0, .inr (15, [v0, v1, v2, v3, .ref a, .int th])), (a, .inr (4, [.int m0, w1, .int 0]))] sz) U U.heap)) (va_Qi (fun (r : Int32) (_ : Unit) => r = 0) (fun (_ : Unit) (t : State) => va_P (dC, dI) vwCl [(h0, .inr (15, [v0, v1, v2, v3, .ref a, .int 0])), (a, .inr (4, [.int m0, w1, .int 0]))] t.heap ∧ va_K (dC, dI) vwCl [] t ∧ va_D (va_A [(h0, .inr (15, [v0, v1, v2, v3, .ref a, .int th])), (a, .inr (4, [.int m0, w1, .int 0]))] sz) [(h0, .inr (15, [v0, v1, v2, v3, .ref a, .int 0])), (a, .inr (4, [.int m0, w1, .int 0]))]) (va_A [(h0, .inr (15, [v0, v1, v2, v3, .ref a, .int th])), (a, .inr (4, [.int m0, w1, .int 0]))] sz)) 5 17 (va_A [(h0, .inr (15, [v0, v1, v2, v3, .ref a, .int th])), (a, .inr (4, [.int m0, w1, .int 0]))] sz) := by
  refine Met.ofW (cc := cX10_countCycles) (maxL := 3) (ret := (some .int)) (by decide) rfl ?_
  intro p e s m args below meth c s₁ B hml hv
  obtain ⟨rfl, hsz, hP, hK, hD0, hZ⟩ := hv
  have hx := B.exec
  have hb := B.bytes
  have hr := B.returns
  have hts0 := atoms_spec (ws := (pw_ws yX10_countCycles cX10_countCycles 3 (some .int))) B.pre
  have hts : ∀ w ∈ pw_all, w.before _ s = true := fun w h => hts0 w (List.mem_cons_of_mem _ h)
  have hown : s.vm.findClass RX10 = some m.cls := findClass_of_methodNamed B.named
  have hlocks := B.notSynchronized
  subst hsz
  have hD := hD0.self (sz := s.heap.size)
  generalize hAe : va_A [(h0, .inr (15, [v0, v1, v2, v3, .ref a, .int th])), (a, .inr (4, [.int m0, w1, .int 0]))] s.heap.size = A at hD hZ ⊢
  have hA : ∀ q : Nat, s.heap.size ≤ q → A q := fun q h => by rw [← hAe]; exact Or.inr h
  have hS : va_S A s.heap s.heap [] := va_S.rf
  have hP : va_P (dC, dI) vwCl [(h0, .inr (15, [v0, v1, v2, v3, .ref a, .int th])), (a, .inr (4, [.int m0, w1, .int 0]))] s.heap := hP
  have hl := lv_entry ([.ref h0]) (n := 3) (Nat.le_of_ble_eq_true rfl)
  rw [lg_entry_eq]
  generalize (lg_sl ([.ref h0]) ++ List.replicate (3 - (lg_sl ([.ref h0])).length) Slot.unset).toArray = ls at hl ⊢
  have hl : lv_has ls 3 [(0, .ref h0)] := hl
  skip
  refine lv_aload_n hx hb dX10_countCycles_0 rfl (lv_at hl 0 rfl) ?_
  refine lv_iconst (v := 0) hx hb dX10_countCycles_1 (by decide) ?_
  refine va_put (D := (dC, dI)) (ci := 15) (v := .int 0) (ty := .int) (C := RX10) (T := TX10) (N := 6) hx hb hts inX10 tyX10 tyX10_ok nmX10 hown hK hP hD hS 0 rfl rfl 5 (by decide) (hts _ q1230) (fun _ h9 => h9) rfl (by decide +kernel) rfl rfl (Nat.le_of_ble_eq_true rfl) dX10_countCycles_2 (fun H locs hP hD hS => ?_)
  have hP : va_P (dC, dI) vwCl [(h0, .inr (15, [v0, v1, v2, v3, .ref a, .int 0])), (a, .inr (4, [.int m0, w1, .int 0]))] H := hP
  have hD : va_D A [(h0, .inr (15, [v0, v1, v2, v3, .ref a, .int 0])), (a, .inr (4, [.int m0, w1, .int 0]))] := hD
  refine va_new (ci := 4) (fs := [.int 0, .null, .int 0]) (C := RJx4a65c) (T := TJx4a65c) (N := 3) hx hb hts inJx4a65c tyJx4a65c tyJx4a65c_ok hown (hts _ q1223) (hts _ q89) (hts _ q46) hK hP hD hS hA rfl (fun j hj => by rcases (show j = 0 ∨ j = 1 ∨ j = 2 by omega) with rfl | rfl | rfl <;> rfl) (Nat.le_of_ble_eq_true rfl) (Nat.le_of_ble_eq_true rfl) dX10_countCycles_5 (fun q_410 H hP hD hS => ?_)
  have hP : va_P (dC, dI) vwCl [(h0, .inr (15, [v0, v1, v2, v3, .ref a, .int 0])), (a, .inr (4, [.int m0, w1, .int 0])), (q_410, .inr (4, [.int 0, .null, .int 0]))] H := hP
  have hD : va_D A [(h0, .inr (15, [v0, v1, v2, v3, .ref a, .int 0])), (a, .inr (4, [.int m0, w1, .int 0])), (q_410, .inr (4, [.int 0, .null, .int 0]))] := hD
  refine W.widen (k := 1) (n := 3) (Nat.le_of_ble_eq_true rfl) (Nat.le_of_ble_eq_true rfl) ?_
  refine lv_dup hx hb dX10_countCycles_8 rfl ?_
  have hPc := hP.sub (ws' := [(q_410, .inr (4, [.int 0, .null, .int 0]))]) [2] rfl
  have hDc := hD.sub (ws' := [(q_410, .inr (4, [.int 0, .null, .int 0]))]) [2] (by decide) rfl
  have hKc := hK.sub (tys' := []) [] rfl
  have hFc := va_free (wc := [(q_410, .inr (4, [.int 0, .null, .int 0]))]) hD hS hA [2] rfl
  refine va_callv (va_runI (As := []) (rest := [.ref q_410]) ⟨hx, hb, hml, hown, hts⟩ (m_listInit l dC dI H.size ed q_410 (.int 0) .null 0) (cwI 0 hts (pw_c q92) rfl rfl rfl (hts _ q46) (hts _ q1224) (hts _ q91) rfl (by decide +kernel) ⟨(Nat.le_of_ble_eq_true rfl), (Nat.le_of_ble_eq_true rfl)⟩) ⟨fun a U g mk q => by obtain ⟨q0, q1, qP, qK, qD, qZ⟩ := q; exact ⟨q0, q1, qP, va_K.moved (u := U) (U := U.calling g mk a) (Vm.Alike.refl U.vm) qK, qD, qZ.same rfl⟩, fun U hU hW => ⟨rfl, by rw [hU], by rw [hU]; exact hPc, va_K.moved hW.alike hKc, hDc.weaken (fun _ _ _ _ => trivial), hZ.call hS hFc hU hW⟩⟩ rfl rfl hl.1 rfl (lv_room (Nat.le_of_ble_eq_true rfl)) dX10_countCycles_9 ⟨(Nat.le_of_ble_eq_true rfl), (Nat.le_of_ble_eq_true rfl)⟩) hS (fun q _ h => hFc q h) hFc (fun u t H1 locs ht hvm hw hB hz1 hk1 hS => ?_)
  obtain ⟨hP1, hK1, hD1⟩ := hB
  rw [ht] at hP1
  have hK1 := va_K.moved hvm.symm hK1
  obtain ⟨hP, hD⟩ := va_join (wr := [(h0, .inr (15, [v0, v1, v2, v3, .ref a, .int 0])), (a, .inr (4, [.int m0, w1, .int 0]))]) (w1 := [(q_410, .inr (4, [.int 0, .ref ed, .int 0]))]) hP hD [2] [0, 1] rfl rfl (by decide) (by decide) hk1 hFc hP1 hD1
  have hK := (hK.sub (tys' := []) [] rfl).app hK1
  generalize H1 = H at hP hS ⊢
  have hP : va_P (dC, dI) vwCl [(h0, .inr (15, [v0, v1, v2, v3, .ref a, .int 0])), (a, .inr (4, [.int m0, w1, .int 0])), (q_410, .inr (4, [.int 0, .ref ed, .int 0]))] H := hP
  have hD : va_D A [(h0, .inr (15, [v0, v1, v2, v3, .ref a, .int 0])), (a, .inr (4, [.int m0, w1, .int 0])), (q_410, .inr (4, [.int 0, .ref ed, .int 0]))] := hD
  have hK : va_K (dC, dI) vwCl [] s := hK
  refine W.widen (k := 1) (n := 3) (Nat.le_of_ble_eq_true rfl) (Nat.le_of_ble_eq_true rfl) ?_
  refine lv_astore_n (lv' := [(1, .ref q_410), (0, .ref h0)]) hx hb dX10_countCycles_12 rfl hl (by decide) rfl (fun ls hl => ?_)
  refine lv_aload_n hx hb dX10_countCycles_13 rfl (lv_at hl 1 rfl) ?_
  refine va_get (D := (dC, dI)) (ci := 15) (v := .ref a) (C := RX10) (T := TX10) (N := 6) hx hb hts inX10 hown hK hP 0 rfl rfl 4 (by decide) (hts _ q1229) (fun _ h9 => h9) rfl dX10_countCycles_14 ?_
  refine lv_aload_n hx hb dX10_countCycles_17 rfl (lv_at hl 0 rfl) ?_
  have hPc := hP.sub (ws' := [(a, .inr (4, [.int m0, w1, .int 0]))]) [1] rfl
  have hDc := hD.sub (ws' := [(a, .inr (4, [.int m0, w1, .int 0]))]) [1] (by decide) rfl
  have hKc := hK.sub (tys' := []) [] rfl
  have hFc := va_free (wc := [(a, .inr (4, [.int m0, w1, .int 0]))]) hD hS hA [1] rfl
  refine va_callr (va_runS (As := [.ref a, .ref q_410]) (rest := []) ⟨hx, hb, hml, hown, hts⟩ (n_rains l dC dI H.size ed a q_410 m0 w1) (va_cwS 2 hts (pw_S q2014 q2015 q49 q2016) rfl rfl rfl (by decide +kernel) ⟨(Nat.le_of_ble_eq_true rfl), (Nat.le_of_ble_eq_true rfl)⟩) ⟨fun a U g mk q => by obtain ⟨q0, q1, qP, qK, qD, qZ⟩ := q; exact ⟨q0, q1, qP, va_K.moved (u := U) (U := U.calling g mk a) (Vm.Alike.refl U.vm) qK, qD, qZ.same rfl⟩, fun U hU hW => ⟨rfl, by rw [hU], by rw [hU]; exact hPc, va_K.moved hW.alike hKc, hDc.weaken (fun _ _ _ _ => trivial), hZ.call hS hFc hU hW⟩⟩ rfl rfl hl.1 rfl (lv_room (Nat.le_of_ble_eq_true rfl)) dX10_countCycles_18 ⟨(Nat.le_of_ble_eq_true rfl), (Nat.le_of_ble_eq_true rfl)⟩) hS (fun q _ h => hFc q h) hFc (fun u r_412 t H1 locs ht hvm hw hB hz1 hk1 hS => ?_)
  obtain ⟨hP1, hK1, hD1⟩ := hB
  rw [ht] at hP1
  have hK1 := va_K.moved hvm.symm hK1
  obtain ⟨hP, hD⟩ := va_join (wr := [(h0, .inr (15, [v0, v1, v2, v3, .ref a, .int 0])), (q_410, .inr (4, [.int 0, .ref ed, .int 0]))]) (w1 := [(r_412, .inr (4, [.int 0, .ref ed, .int 0])), (a, .inr (4, [.int m0, w1, .int 0]))]) hP hD [1] [0, 2] rfl rfl (by decide) (by decide) hk1 hFc hP1 hD1
  have hK := (hK.sub (tys' := []) [] rfl).app hK1
  generalize H1 = H at hP hS ⊢
  have hP : va_P (dC, dI) vwCl [(h0, .inr (15, [v0, v1, v2, v3, .ref a, .int 0])), (q_410, .inr (4, [.int 0, .ref ed, .int 0])), (r_412, .inr (4, [.int 0, .ref ed, .int 0])), (a, .inr (4, [.int m0, w1, .int 0]))] H := hP
  have hD : va_D A [(h0, .inr (15, [v0, v1, v2, v3, .ref a, .int 0])), (q_410, .inr (4, [.int 0, .ref ed, .int 0])), (r_412, .inr (4, [.int 0, .ref ed, .int 0])), (a, .inr (4, [.int m0, w1, .int 0]))] := hD
  have hK : va_K (dC, dI) vwCl [] s := hK
  refine W.widen (k := 5) (n := 17) (Nat.le_of_ble_eq_true rfl) (Nat.le_of_ble_eq_true rfl) ?_
  refine lv_astore_n (lv' := [(2, .ref r_412), (1, .ref q_410), (0, .ref h0)]) hx hb dX10_countCycles_21 rfl hl (by decide) rfl (fun ls hl => ?_)
  refine lv_aload_n hx hb dX10_countCycles_22 rfl (lv_at hl 0 rfl) ?_
  have hPc := hP.sub (ws' := [(r_412, .inr (4, [.int 0, .ref ed, .int 0]))]) [2] rfl
  have hDc := hD.sub (ws' := [(r_412, .inr (4, [.int 0, .ref ed, .int 0]))]) [2] (by decide) rfl
  have hKc := hK.sub (tys' := []) [] rfl
  have hFc := va_free (wc := [(r_412, .inr (4, [.int 0, .ref ed, .int 0]))]) hD hS hA [2] rfl
  refine va_calli (va_runV (As := []) (rest := []) ⟨hx, hb, hml, hown, hts⟩ (m_isEmpty l dC dI H.size r_412 (.int 0) (.ref ed)) (cwV 0 hts (pw_V q1389 q1390 q1391 q46 q1392) rfl rfl rfl (by decide +kernel) ⟨(Nat.le_of_ble_eq_true rfl), (Nat.le_of_ble_eq_true rfl)⟩) ⟨fun a U g mk q => by obtain ⟨q0, q1, qP, qK, qD⟩ := q; exact ⟨q0, q1, qP, va_K.moved (u := U) (U := U.calling g mk a) (Vm.Alike.refl U.vm) qK, qD⟩, va_recv hKc hPc (ci := 4) (q0 := 0) rfl rfl, fun U hU hW => ⟨rfl, by rw [hU], by rw [hU]; exact hPc, va_K.moved hW.alike hKc, hDc.weaken (fun _ _ _ _ => trivial)⟩⟩ rfl rfl hl.1 rfl (lv_room (Nat.le_of_ble_eq_true rfl)) dX10_countCycles_23 ⟨(Nat.le_of_ble_eq_true rfl), (Nat.le_of_ble_eq_true rfl)⟩) hS (fun q _ h => hFc q h) hFc (fun r_413 u t H1 locs ht hvm hw hB hz1 hk1 hS => ?_)
  obtain ⟨hP1, hK1, hD1⟩ := hB
  rw [ht] at hP1
  have hK1 := va_K.moved hvm.symm hK1
  obtain ⟨hP, hD⟩ := va_join (wr := [(h0, .inr (15, [v0, v1, v2, v3, .ref a, .int 0])), (q_410, .inr (4, [.int 0, .ref ed, .int 0])), (a, .inr (4, [.int m0, w1, .int 0]))]) (w1 := [(r_412, .inr (4, [.int 0, .ref ed, .int 0]))]) hP hD [2] [0, 1, 3] rfl rfl (by decide) (by decide) hk1 hFc hP1 hD1
  have hK := (hK.sub (tys' := []) [] rfl).app hK1
  generalize H1 = H at hP hS ⊢
  have hP : va_P (dC, dI) vwCl [(h0, .inr (15, [v0, v1, v2, v3, .ref a, .int 0])), (q_410, .inr (4, [.int 0, .ref ed, .int 0])), (a, .inr (4, [.int m0, w1, .int 0])), (r_412, .inr (4, [.int 0, .ref ed, .int 0]))] H := hP
  have hD : va_D A [(h0, .inr (15, [v0, v1, v2, v3, .ref a, .int 0])), (q_410, .inr (4, [.int 0, .ref ed, .int 0])), (a, .inr (4, [.int m0, w1, .int 0])), (r_412, .inr (4, [.int 0, .ref ed, .int 0]))] := hD
  have hK : va_K (dC, dI) vwCl [] s := hK
  refine W.widen (k := 5) (n := 17) (Nat.le_of_ble_eq_true rfl) (Nat.le_of_ble_eq_true rfl) ?_
  have hw : r_413 = 1 := hw
  subst hw
  refine lv_if_eq (tgt := 33) hx hb dX10_countCycles_26 (by decide) (fun c_414 => absurd c_414 (by decide)) (fun c_414 => ?_)
  refine lv_iconst (v := 0) hx hb dX10_countCycles_29 (by decide) ?_
  refine lv_goto (tgt := 37) hx hb dX10_countCycles_30 (by decide) ?_
  have hP9 := hP.sub (ws' := [(h0, .inr (15, [v0, v1, v2, v3, .ref a, .int 0])), (a, .inr (4, [.int m0, w1, .int 0]))]) [0, 2] rfl
  have hD9 := hD.sub (ws' := [(h0, .inr (15, [v0, v1, v2, v3, .ref a, .int 0])), (a, .inr (4, [.int m0, w1, .int 0]))]) [0, 2] (by decide) rfl
  have hK9 := hK.sub (tys' := []) [] rfl
  refine W.widen (k := 5) (n := 17) (Nat.le_of_ble_eq_true rfl) (Nat.le_of_ble_eq_true rfl) ?_
  exact W.iret (v := 0) hx hb hr (fun t ht hW => ⟨⟨0, (), rfl, rfl, ⟨by rw [ht]; exact hP9, va_K.moved hW.alike hK9, hD9⟩⟩, hS.F ht⟩) hS.2.2 dX10_countCycles_37
set_option maxHeartbeats 4000000 in
set_option maxRecDepth 100000 in
theorem n_damage (l : Launch) (dC : Nat → ClassId) (dI : Nat → Nat → Nat) (sz : Nat) (ed : Nat) (a : Nat) (m0 : Int32) (w1 : Value) : Met l yX10_damage (pw_ws yX10_damage cX10_damage 9 (some .long)) ({ frames := 6, cells := 6, slots := 21, locals := 130 } : Room) (va_Pc [.ref a] (fun U => U.heap.size = sz ∧ va_P (dC, dI) vwCl [(a, .inr (4, [.int m0, w1, .int 0]))] U.heap ∧ va_K (dC, dI) vwCl [] U ∧ va_D (fun _ => True) [(a, .inr (4, [.int m0, w1, .int 0]))] ∧ pz ed (va_A [(a, .inr (4, [.int m0, w1, .int 0]))] sz) U U.heap)) (va_Ql (fun (r : Int64) (_ : Unit) => r = 0) (fun (_ : Unit) (t : State) => va_P (dC, dI) vwCl [(a, .inr (4, [.int m0, w1, .int 0]))] t.heap ∧ va_K (dC, dI) vwCl [] t ∧ va_D (va_A [(a, .inr (4, [.int m0, w1, .int 0]))] sz) [(a, .inr (4, [.int m0, w1, .int 0]))]) (va_A [(a, .inr (4, [.int m0, w1, .int 0]))] sz)) 6 21 (va_A [(a, .inr (4, [.int m0, w1, .int 0]))] sz) := by
  refine Met.ofW (cc := cX10_damage) (maxL := 9) (ret := (some .long)) (by decide) rfl ?_
  intro p e s m args below meth c s₁ B hml hv
  obtain ⟨rfl, hsz, hP, hK, hD0, hZ⟩ := hv
  have hx := B.exec
  have hb := B.bytes
  have hr := B.returns
  have hts0 := atoms_spec (ws := (pw_ws yX10_damage cX10_damage 9 (some .long))) B.pre
  have hts : ∀ w ∈ pw_all, w.before _ s = true := fun w h => hts0 w (List.mem_cons_of_mem _ h)
  have hown : s.vm.findClass RX10 = some m.cls := findClass_of_methodNamed B.named
  have hlocks := B.notSynchronized
  subst hsz
  have hD := hD0.self (sz := s.heap.size)
  generalize hAe : va_A [(a, .inr (4, [.int m0, w1, .int 0]))] s.heap.size = A at hD hZ ⊢
  have hA : ∀ q : Nat, s.heap.size ≤ q → A q := fun q h => by rw [← hAe]; exact Or.inr h
  have hS : va_S A s.heap s.heap [] := va_S.rf
  have hP : va_P (dC, dI) vwCl [(a, .inr (4, [.int m0, w1, .int 0]))] s.heap := hP
  have hl := lv_entry ([.ref a]) (n := 9) (Nat.le_of_ble_eq_true rfl)
  rw [lg_entry_eq]
  generalize (lg_sl ([.ref a]) ++ List.replicate (9 - (lg_sl ([.ref a])).length) Slot.unset).toArray = ls at hl ⊢
  have hl : lv_has ls 9 [(0, .ref a)] := hl
  skip
  refine va_new (ci := 4) (fs := [.int 0, .null, .int 0]) (C := RJx4a65c) (T := TJx4a65c) (N := 3) hx hb hts inJx4a65c tyJx4a65c tyJx4a65c_ok hown (hts _ q1223) (hts _ q89) (hts _ q46) hK hP hD hS hA rfl (fun j hj => by rcases (show j = 0 ∨ j = 1 ∨ j = 2 by omega) with rfl | rfl | rfl <;> rfl) (Nat.le_of_ble_eq_true rfl) (Nat.le_of_ble_eq_true rfl) dX10_damage_0 (fun q_415 H hP hD hS => ?_)
  have hP : va_P (dC, dI) vwCl [(a, .inr (4, [.int m0, w1, .int 0])), (q_415, .inr (4, [.int 0, .null, .int 0]))] H := hP
  have hD : va_D A [(a, .inr (4, [.int m0, w1, .int 0])), (q_415, .inr (4, [.int 0, .null, .int 0]))] := hD
  refine W.widen (k := 1) (n := 3) (Nat.le_of_ble_eq_true rfl) (Nat.le_of_ble_eq_true rfl) ?_
  refine lv_dup hx hb dX10_damage_3 rfl ?_
  have hPc := hP.sub (ws' := [(q_415, .inr (4, [.int 0, .null, .int 0]))]) [1] rfl
  have hDc := hD.sub (ws' := [(q_415, .inr (4, [.int 0, .null, .int 0]))]) [1] (by decide) rfl
  have hKc := hK.sub (tys' := []) [] rfl
  have hFc := va_free (wc := [(q_415, .inr (4, [.int 0, .null, .int 0]))]) hD hS hA [1] rfl
  refine va_callv (va_runI (As := []) (rest := [.ref q_415]) ⟨hx, hb, hml, hown, hts⟩ (m_listInit l dC dI H.size ed q_415 (.int 0) .null 0) (cwI 0 hts (pw_c q92) rfl rfl rfl (hts _ q46) (hts _ q1224) (hts _ q91) rfl (by decide +kernel) ⟨(Nat.le_of_ble_eq_true rfl), (Nat.le_of_ble_eq_true rfl)⟩) ⟨fun a U g mk q => by obtain ⟨q0, q1, qP, qK, qD, qZ⟩ := q; exact ⟨q0, q1, qP, va_K.moved (u := U) (U := U.calling g mk a) (Vm.Alike.refl U.vm) qK, qD, qZ.same rfl⟩, fun U hU hW => ⟨rfl, by rw [hU], by rw [hU]; exact hPc, va_K.moved hW.alike hKc, hDc.weaken (fun _ _ _ _ => trivial), hZ.call hS hFc hU hW⟩⟩ rfl rfl hl.1 rfl (lv_room (Nat.le_of_ble_eq_true rfl)) dX10_damage_4 ⟨(Nat.le_of_ble_eq_true rfl), (Nat.le_of_ble_eq_true rfl)⟩) hS (fun q _ h => hFc q h) hFc (fun u t H1 locs ht hvm hw hB hz1 hk1 hS => ?_)
  obtain ⟨hP1, hK1, hD1⟩ := hB
  rw [ht] at hP1
  have hK1 := va_K.moved hvm.symm hK1
  obtain ⟨hP, hD⟩ := va_join (wr := [(a, .inr (4, [.int m0, w1, .int 0]))]) (w1 := [(q_415, .inr (4, [.int 0, .ref ed, .int 0]))]) hP hD [1] [0] rfl rfl (by decide) (by decide) hk1 hFc hP1 hD1
  have hK := (hK.sub (tys' := []) [] rfl).app hK1
  generalize H1 = H at hP hS ⊢
  have hP : va_P (dC, dI) vwCl [(a, .inr (4, [.int m0, w1, .int 0])), (q_415, .inr (4, [.int 0, .ref ed, .int 0]))] H := hP
  have hD : va_D A [(a, .inr (4, [.int m0, w1, .int 0])), (q_415, .inr (4, [.int 0, .ref ed, .int 0]))] := hD
  have hK : va_K (dC, dI) vwCl [] s := hK
  refine W.widen (k := 1) (n := 3) (Nat.le_of_ble_eq_true rfl) (Nat.le_of_ble_eq_true rfl) ?_
  refine lv_astore_n (lv' := [(1, .ref q_415), (0, .ref a)]) hx hb dX10_damage_7 rfl hl (by decide) rfl (fun ls hl => ?_)
  refine lv_aload_n hx hb dX10_damage_8 rfl (lv_at hl 1 rfl) ?_
  refine lv_aload_n hx hb dX10_damage_9 rfl (lv_at hl 0 rfl) ?_
  have hPc := hP.sub (ws' := [(a, .inr (4, [.int m0, w1, .int 0]))]) [0] rfl
  have hDc := hD.sub (ws' := [(a, .inr (4, [.int m0, w1, .int 0]))]) [0] (by decide) rfl
  have hKc := hK.sub (tys' := []) [] rfl
  have hFc := va_free (wc := [(a, .inr (4, [.int m0, w1, .int 0]))]) hD hS hA [0] rfl
  refine va_callr (va_runS (As := [.ref a, .ref q_415]) (rest := []) ⟨hx, hb, hml, hown, hts⟩ (n_rains l dC dI H.size ed a q_415 m0 w1) (va_cwS 2 hts (pw_S q2014 q2015 q49 q2016) rfl rfl rfl (by decide +kernel) ⟨(Nat.le_of_ble_eq_true rfl), (Nat.le_of_ble_eq_true rfl)⟩) ⟨fun a U g mk q => by obtain ⟨q0, q1, qP, qK, qD, qZ⟩ := q; exact ⟨q0, q1, qP, va_K.moved (u := U) (U := U.calling g mk a) (Vm.Alike.refl U.vm) qK, qD, qZ.same rfl⟩, fun U hU hW => ⟨rfl, by rw [hU], by rw [hU]; exact hPc, va_K.moved hW.alike hKc, hDc.weaken (fun _ _ _ _ => trivial), hZ.call hS hFc hU hW⟩⟩ rfl rfl hl.1 rfl (lv_room (Nat.le_of_ble_eq_true rfl)) dX10_damage_10 ⟨(Nat.le_of_ble_eq_true rfl), (Nat.le_of_ble_eq_true rfl)⟩) hS (fun q _ h => hFc q h) hFc (fun u r_417 t H1 locs ht hvm hw hB hz1 hk1 hS => ?_)
  obtain ⟨hP1, hK1, hD1⟩ := hB
  rw [ht] at hP1
  have hK1 := va_K.moved hvm.symm hK1
  obtain ⟨hP, hD⟩ := va_join (wr := [(q_415, .inr (4, [.int 0, .ref ed, .int 0]))]) (w1 := [(r_417, .inr (4, [.int 0, .ref ed, .int 0])), (a, .inr (4, [.int m0, w1, .int 0]))]) hP hD [0] [1] rfl rfl (by decide) (by decide) hk1 hFc hP1 hD1
  have hK := (hK.sub (tys' := []) [] rfl).app hK1
  generalize H1 = H at hP hS ⊢
  have hP : va_P (dC, dI) vwCl [(q_415, .inr (4, [.int 0, .ref ed, .int 0])), (r_417, .inr (4, [.int 0, .ref ed, .int 0])), (a, .inr (4, [.int m0, w1, .int 0]))] H := hP
  have hD : va_D A [(q_415, .inr (4, [.int 0, .ref ed, .int 0])), (r_417, .inr (4, [.int 0, .ref ed, .int 0])), (a, .inr (4, [.int m0, w1, .int 0]))] := hD
  have hK : va_K (dC, dI) vwCl [] s := hK
  refine W.widen (k := 5) (n := 17) (Nat.le_of_ble_eq_true rfl) (Nat.le_of_ble_eq_true rfl) ?_
  refine lv_astore_n (lv' := [(2, .ref r_417), (1, .ref q_415), (0, .ref a)]) hx hb dX10_damage_13 rfl hl (by decide) rfl (fun ls hl => ?_)
  refine lv_lconst (v := 0) hx hb dX10_damage_14 (by decide) ?_
  refine lv_lstore_n (lv' := [(3, .long 0), (2, .ref r_417), (1, .ref q_415), (0, .ref a)]) hx hb dX10_damage_15 rfl hl (by decide) rfl (fun ls hl => ?_)
  refine lv_lconst (v := 0) hx hb dX10_damage_16 (by decide) ?_
  refine lv_lstore (lv' := [(5, .long 0), (3, .long 0), (2, .ref r_417), (1, .ref q_415), (0, .ref a)]) hx hb dX10_damage_17 hl (by decide) rfl (fun ls hl => ?_)
  refine lv_aload_n hx hb dX10_damage_19 rfl (lv_at hl 3 rfl) ?_
  have hPc := hP.sub (ws' := [(q_415, .inr (4, [.int 0, .ref ed, .int 0]))]) [0] rfl
  have hDc := hD.sub (ws' := [(q_415, .inr (4, [.int 0, .ref ed, .int 0]))]) [0] (by decide) rfl
  have hKc := hK.sub (tys' := []) [] rfl
  have hFc := va_free (wc := [(q_415, .inr (4, [.int 0, .ref ed, .int 0]))]) hD hS hA [0] rfl
  refine va_callr (va_runV (As := []) (rest := []) ⟨hx, hb, hml, hown, hts⟩ (m_iterator l dC dI H.size q_415 0 (.ref ed) (.int 0)) (cwV 0 hts (pw_V q1522 q1523 q1524 q46 q1525) rfl rfl rfl (by decide +kernel) ⟨(Nat.le_of_ble_eq_true rfl), (Nat.le_of_ble_eq_true rfl)⟩) ⟨fun a U g mk q => by obtain ⟨q0, q1, qP, qK, qD⟩ := q; exact ⟨q0, q1, qP, va_K.moved (u := U) (U := U.calling g mk a) (Vm.Alike.refl U.vm) qK, qD⟩, va_recv hKc hPc (ci := 4) (q0 := 0) rfl rfl, fun U hU hW => ⟨rfl, by rw [hU], by rw [hU]; exact hPc, va_K.moved hW.alike hKc, hDc.weaken (fun _ _ _ _ => trivial)⟩⟩ rfl rfl hl.1 rfl (lv_room (Nat.le_of_ble_eq_true rfl)) dX10_damage_20 ⟨(Nat.le_of_ble_eq_true rfl), (Nat.le_of_ble_eq_true rfl)⟩) hS (fun q _ h => hFc q h) hFc (fun u r_418 t H1 locs ht hvm hw hB hz1 hk1 hS => ?_)
  obtain ⟨hP1, hK1, hD1⟩ := hB
  rw [ht] at hP1
  have hK1 := va_K.moved hvm.symm hK1
  obtain ⟨hP, hD⟩ := va_join (wr := [(r_417, .inr (4, [.int 0, .ref ed, .int 0])), (a, .inr (4, [.int m0, w1, .int 0]))]) (w1 := [(r_418, .inr (3, [.int 0, .int (-1), .int 0, .ref q_415])), (q_415, .inr (4, [.int 0, .ref ed, .int 0]))]) hP hD [0] [1, 2] rfl rfl (by decide) (by decide) hk1 hFc hP1 hD1
  have hK := (hK.sub (tys' := []) [] rfl).app hK1
  generalize H1 = H at hP hS ⊢
  have hP : va_P (dC, dI) vwCl [(r_417, .inr (4, [.int 0, .ref ed, .int 0])), (a, .inr (4, [.int m0, w1, .int 0])), (r_418, .inr (3, [.int 0, .int (-1), .int 0, .ref q_415])), (q_415, .inr (4, [.int 0, .ref ed, .int 0]))] H := hP
  have hD : va_D A [(r_417, .inr (4, [.int 0, .ref ed, .int 0])), (a, .inr (4, [.int m0, w1, .int 0])), (r_418, .inr (3, [.int 0, .int (-1), .int 0, .ref q_415])), (q_415, .inr (4, [.int 0, .ref ed, .int 0]))] := hD
  have hK : va_K (dC, dI) vwCl [] s := hK
  refine W.widen (k := 6) (n := 21) (Nat.le_of_ble_eq_true rfl) (Nat.le_of_ble_eq_true rfl) ?_
  refine lv_astore (lv' := [(7, .ref r_418), (5, .long 0), (3, .long 0), (2, .ref r_417), (1, .ref q_415), (0, .ref a)]) hx hb dX10_damage_23 hl (by decide) rfl (fun ls hl => ?_)
  refine lv_aload hx hb dX10_damage_25 (lv_at hl 0 rfl) ?_
  have hPc := hP.sub (ws' := [(r_418, .inr (3, [.int 0, .int (-1), .int 0, .ref q_415])), (q_415, .inr (4, [.int 0, .ref ed, .int 0]))]) [2, 3] rfl
  have hDc := hD.sub (ws' := [(r_418, .inr (3, [.int 0, .int (-1), .int 0, .ref q_415])), (q_415, .inr (4, [.int 0, .ref ed, .int 0]))]) [2, 3] (by decide) rfl
  have hKc := hK.sub (tys' := []) [] rfl
  have hFc := va_free (wc := [(r_418, .inr (3, [.int 0, .int (-1), .int 0, .ref q_415])), (q_415, .inr (4, [.int 0, .ref ed, .int 0]))]) hD hS hA [2, 3] rfl
  refine va_callFi (va_runF (As := []) (rest := []) (hKc.1 3 _ rfl).2 ⟨hx, hb, hml, hown, hts⟩ (m_hasNext l dC dI H.size ed r_418 q_415 (.int (-1)) (.int 0) (.int 0) (.ref ed)) (va_cwF 0 hts (pw_F q1546 q1550 q1552 q70 q1554) rfl rfl rfl hZ.iter (by decide +kernel) ⟨(Nat.le_of_ble_eq_true rfl), (Nat.le_of_ble_eq_true rfl)⟩) ⟨fun a U g mk q => by obtain ⟨q0, q1, qP, qK, qD, qZ⟩ := q; exact ⟨q0, q1, qP, va_K.moved (u := U) (U := U.calling g mk a) (Vm.Alike.refl U.vm) qK, qD, qZ.same rfl⟩, va_recv hKc hPc (ci := 3) (q0 := 0) rfl rfl, fun U hU hW => ⟨rfl, by rw [hU], by rw [hU]; exact hPc, va_K.moved hW.alike hKc, hDc.weaken (fun _ _ _ _ => trivial), hZ.call hS hFc hU hW⟩⟩ rfl rfl hl.1 rfl (lv_room (Nat.le_of_ble_eq_true rfl)) dX10_damage_27 ⟨(Nat.le_of_ble_eq_true rfl), (Nat.le_of_ble_eq_true rfl)⟩) hS (fun q _ h => hFc q h) hFc (fun r_419 u t H1 locs ht hvm hw hB hz1 hk1 hS => ?_)
  obtain ⟨hP1, hK1, hD1⟩ := hB
  rw [ht] at hP1
  have hK1 := va_K.moved hvm.symm hK1
  obtain ⟨hP, hD⟩ := va_join (wr := [(r_417, .inr (4, [.int 0, .ref ed, .int 0])), (a, .inr (4, [.int m0, w1, .int 0]))]) (w1 := [(r_418, .inr (3, [.int 0, .int (-1), .int 0, .ref q_415])), (q_415, .inr (4, [.int 0, .ref ed, .int 0]))]) hP hD [2, 3] [0, 1] rfl rfl (by decide) (by decide) hk1 hFc hP1 hD1
  have hK := (hK.sub (tys' := []) [] rfl).app hK1
  generalize H1 = H at hP hS ⊢
  have hP : va_P (dC, dI) vwCl [(r_417, .inr (4, [.int 0, .ref ed, .int 0])), (a, .inr (4, [.int m0, w1, .int 0])), (r_418, .inr (3, [.int 0, .int (-1), .int 0, .ref q_415])), (q_415, .inr (4, [.int 0, .ref ed, .int 0]))] H := hP
  have hD : va_D A [(r_417, .inr (4, [.int 0, .ref ed, .int 0])), (a, .inr (4, [.int m0, w1, .int 0])), (r_418, .inr (3, [.int 0, .int (-1), .int 0, .ref q_415])), (q_415, .inr (4, [.int 0, .ref ed, .int 0]))] := hD
  have hK : va_K (dC, dI) vwCl [] s := hK
  refine W.widen (k := 6) (n := 21) (Nat.le_of_ble_eq_true rfl) (Nat.le_of_ble_eq_true rfl) ?_
  have hw : r_419 = 0 := hw
  subst hw
  refine lv_if_eq (tgt := 61) hx hb dX10_damage_32 (by decide) (fun c_420 => ?_) (fun c_420 => absurd (by decide) c_420)
  refine lv_iconst (v := 1) hx hb dX10_damage_61 (by decide) ?_
  refine lv_istore (lv' := [(7, .int 1), (5, .long 0), (3, .long 0), (2, .ref r_417), (1, .ref q_415), (0, .ref a)]) hx hb dX10_damage_62 hl (by decide) rfl (fun ls hl => ?_)
  refine lv_iload hx hb dX10_damage_64 (lv_at hl 0 rfl) ?_
  refine lv_aload_n hx hb dX10_damage_66 rfl (lv_at hl 3 rfl) ?_
  have hPc := hP.sub (ws' := [(r_417, .inr (4, [.int 0, .ref ed, .int 0]))]) [0] rfl
  have hDc := hD.sub (ws' := [(r_417, .inr (4, [.int 0, .ref ed, .int 0]))]) [0] (by decide) rfl
  have hKc := hK.sub (tys' := []) [] rfl
  have hFc := va_free (wc := [(r_417, .inr (4, [.int 0, .ref ed, .int 0]))]) hD hS hA [0] rfl
  refine va_calli (va_runV (As := []) (rest := [.int 1]) ⟨hx, hb, hml, hown, hts⟩ (m_size l dC dI H.size r_417 (.int 0) (.ref ed) 0) (cwV 0 hts (pw_V q1252 q274 q275 q46 q276) rfl rfl rfl (by decide +kernel) ⟨(Nat.le_of_ble_eq_true rfl), (Nat.le_of_ble_eq_true rfl)⟩) ⟨fun a U g mk q => by obtain ⟨q0, q1, qP, qK, qD⟩ := q; exact ⟨q0, q1, qP, va_K.moved (u := U) (U := U.calling g mk a) (Vm.Alike.refl U.vm) qK, qD⟩, va_recv hKc hPc (ci := 4) (q0 := 0) rfl rfl, fun U hU hW => ⟨rfl, by rw [hU], by rw [hU]; exact hPc, va_K.moved hW.alike hKc, hDc.weaken (fun _ _ _ _ => trivial)⟩⟩ rfl rfl hl.1 rfl (lv_room (Nat.le_of_ble_eq_true rfl)) dX10_damage_67 ⟨(Nat.le_of_ble_eq_true rfl), (Nat.le_of_ble_eq_true rfl)⟩) hS (fun q _ h => hFc q h) hFc (fun r_421 u t H1 locs ht hvm hw hB hz1 hk1 hS => ?_)
  obtain ⟨hP1, hK1, hD1⟩ := hB
  rw [ht] at hP1
  have hK1 := va_K.moved hvm.symm hK1
  obtain ⟨hP, hD⟩ := va_join (wr := [(a, .inr (4, [.int m0, w1, .int 0])), (r_418, .inr (3, [.int 0, .int (-1), .int 0, .ref q_415])), (q_415, .inr (4, [.int 0, .ref ed, .int 0]))]) (w1 := [(r_417, .inr (4, [.int 0, .ref ed, .int 0]))]) hP hD [0] [1, 2, 3] rfl rfl (by decide) (by decide) hk1 hFc hP1 hD1
  have hK := (hK.sub (tys' := []) [] rfl).app hK1
  generalize H1 = H at hP hS ⊢
  have hP : va_P (dC, dI) vwCl [(a, .inr (4, [.int m0, w1, .int 0])), (r_418, .inr (3, [.int 0, .int (-1), .int 0, .ref q_415])), (q_415, .inr (4, [.int 0, .ref ed, .int 0])), (r_417, .inr (4, [.int 0, .ref ed, .int 0]))] H := hP
  have hD : va_D A [(a, .inr (4, [.int m0, w1, .int 0])), (r_418, .inr (3, [.int 0, .int (-1), .int 0, .ref q_415])), (q_415, .inr (4, [.int 0, .ref ed, .int 0])), (r_417, .inr (4, [.int 0, .ref ed, .int 0]))] := hD
  have hK : va_K (dC, dI) vwCl [] s := hK
  refine W.widen (k := 6) (n := 21) (Nat.le_of_ble_eq_true rfl) (Nat.le_of_ble_eq_true rfl) ?_
  have hw : r_421 = 0 := hw
  subst hw
  refine lv_icmp_ge (tgt := 93) hx hb dX10_damage_70 (by decide) (fun c_422 => ?_) (fun c_422 => absurd (by decide) c_422)
  refine lv_lload_n hx hb dX10_damage_93 rfl (lv_at hl 2 rfl) ?_
  refine lv_lload hx hb dX10_damage_94 (lv_at hl 1 rfl) ?_
  refine lv_ldc2 (v := 2) hx hb hown (hts _ q2040) dX10_damage_96 ?_
  refine lv_ldiv hx hb dX10_damage_99 (by decide) ?_
  refine lv_numL (v := 0) (by decide) ?_
  refine lv_ladd hx hb dX10_damage_100 ?_
  refine lv_numL (v := 0) (by decide) ?_
  have hP9 := hP.sub (ws' := [(a, .inr (4, [.int m0, w1, .int 0]))]) [0] rfl
  have hD9 := hD.sub (ws' := [(a, .inr (4, [.int m0, w1, .int 0]))]) [0] (by decide) rfl
  have hK9 := hK.sub (tys' := []) [] rfl
  refine W.widen (k := 6) (n := 21) (Nat.le_of_ble_eq_true rfl) (Nat.le_of_ble_eq_true rfl) ?_
  exact W.lret (v := 0) hx hb hr (fun t ht hW => ⟨⟨0, (), rfl, rfl, ⟨by rw [ht]; exact hP9, va_K.moved hW.alike hK9, hD9⟩⟩, hS.F ht⟩) hS.2.2 dX10_damage_101
set_option maxHeartbeats 4000000 in
set_option maxRecDepth 100000 in
theorem z_damageOfRow (l : Launch) (dC : Nat → ClassId) (dI : Nat → Nat → Nat) (sz : Nat) (ed : Nat) (h0 : Nat) (a : Nat) (v0 : Value) (v1 : Value) (v2 : Value) (v3 : Value) (th : Int32) (m0 : Int32) (w1 : Value) : Met l yX10_damageOfRow (pw_ws yX10_damageOfRow cX10_damageOfRow 1 (some .long)) ({ frames := 7, cells := 6, slots := 21, locals := 158 } : Room) (va_Pc [.ref h0] (fun U => U.heap.size = sz ∧ va_P (dC, dI) vwCl [(h0, .inr (15, [v0, v1, v2, v3, .ref a, .int th])), (a, .inr (4, [.int m0, w1, .int 0]))] U.heap ∧ va_K (dC, dI) vwCl [] U ∧ va_D (fun _ => True) [(h0, .inr (15, [v0, v1, v2, v3, .ref a, .int th])), (a, .inr (4, [.int m0, w1, .int 0]))] ∧ pz ed (va_A [(h0, .inr (15, [v0, v1, v2, v3, .ref a, .int th])), (a, .inr (4, [.int m0, w1, .int 0]))] sz) U U.heap)) (va_Ql (fun (r : Int64) (_ : Unit) => r = 0) (fun (_ : Unit) (t : State) => va_P (dC, dI) vwCl [(h0, .inr (15, [v0, v1, v2, v3, .ref a, .int 0])), (a, .inr (4, [.int m0, w1, .int 0]))] t.heap ∧ va_K (dC, dI) vwCl [] t ∧ va_D (va_A [(h0, .inr (15, [v0, v1, v2, v3, .ref a, .int th])), (a, .inr (4, [.int m0, w1, .int 0]))] sz) [(h0, .inr (15, [v0, v1, v2, v3, .ref a, .int 0])), (a, .inr (4, [.int m0, w1, .int 0]))]) (va_A [(h0, .inr (15, [v0, v1, v2, v3, .ref a, .int th])), (a, .inr (4, [.int m0, w1, .int 0]))] sz)) 6 21 (va_A [(h0, .inr (15, [v0, v1, v2, v3, .ref a, .int th])), (a, .inr (4, [.int m0, w1, .int 0]))] sz) := by
  refine Met.ofW (cc := cX10_damageOfRow) (maxL := 1) (ret := (some .long)) (by decide) rfl ?_
  intro p e s m args below meth c s₁ B hml hv
  obtain ⟨rfl, hsz, hP, hK, hD0, hZ⟩ := hv
  have hx := B.exec
  have hb := B.bytes
  have hr := B.returns
  have hts0 := atoms_spec (ws := (pw_ws yX10_damageOfRow cX10_damageOfRow 1 (some .long))) B.pre
  have hts : ∀ w ∈ pw_all, w.before _ s = true := fun w h => hts0 w (List.mem_cons_of_mem _ h)
  have hown : s.vm.findClass RX10 = some m.cls := findClass_of_methodNamed B.named
  have hlocks := B.notSynchronized
  subst hsz
  have hD := hD0.self (sz := s.heap.size)
  generalize hAe : va_A [(h0, .inr (15, [v0, v1, v2, v3, .ref a, .int th])), (a, .inr (4, [.int m0, w1, .int 0]))] s.heap.size = A at hD hZ ⊢
  have hA : ∀ q : Nat, s.heap.size ≤ q → A q := fun q h => by rw [← hAe]; exact Or.inr h
  have hS : va_S A s.heap s.heap [] := va_S.rf
  have hP : va_P (dC, dI) vwCl [(h0, .inr (15, [v0, v1, v2, v3, .ref a, .int th])), (a, .inr (4, [.int m0, w1, .int 0]))] s.heap := hP
  have hl := lv_entry ([.ref h0]) (n := 1) (Nat.le_of_ble_eq_true rfl)
  rw [lg_entry_eq]
  generalize (lg_sl ([.ref h0]) ++ List.replicate (1 - (lg_sl ([.ref h0])).length) Slot.unset).toArray = ls at hl ⊢
  have hl : lv_has ls 1 [(0, .ref h0)] := hl
  skip
  refine lv_aload_n hx hb dX10_damageOfRow_0 rfl (lv_at hl 0 rfl) ?_
  refine lv_iconst (v := 0) hx hb dX10_damageOfRow_1 (by decide) ?_
  refine va_put (D := (dC, dI)) (ci := 15) (v := .int 0) (ty := .int) (C := RX10) (T := TX10) (N := 6) hx hb hts inX10 tyX10 tyX10_ok nmX10 hown hK hP hD hS 0 rfl rfl 5 (by decide) (hts _ q1230) (fun _ h9 => h9) rfl (by decide +kernel) rfl rfl (Nat.le_of_ble_eq_true rfl) dX10_damageOfRow_2 (fun H locs hP hD hS => ?_)
  have hP : va_P (dC, dI) vwCl [(h0, .inr (15, [v0, v1, v2, v3, .ref a, .int 0])), (a, .inr (4, [.int m0, w1, .int 0]))] H := hP
  have hD : va_D A [(h0, .inr (15, [v0, v1, v2, v3, .ref a, .int 0])), (a, .inr (4, [.int m0, w1, .int 0]))] := hD
  refine lv_aload_n hx hb dX10_damageOfRow_5 rfl (lv_at hl 0 rfl) ?_
  refine va_get (D := (dC, dI)) (ci := 15) (v := .ref a) (C := RX10) (T := TX10) (N := 6) hx hb hts inX10 hown hK hP 0 rfl rfl 4 (by decide) (hts _ q1229) (fun _ h9 => h9) rfl dX10_damageOfRow_6 ?_
  have hPc := hP.sub (ws' := [(a, .inr (4, [.int m0, w1, .int 0]))]) [1] rfl
  have hDc := hD.sub (ws' := [(a, .inr (4, [.int m0, w1, .int 0]))]) [1] (by decide) rfl
  have hKc := hK.sub (tys' := []) [] rfl
  have hFc := va_free (wc := [(a, .inr (4, [.int m0, w1, .int 0]))]) hD hS hA [1] rfl
  refine va_calll (va_runS (As := [.ref a]) (rest := []) ⟨hx, hb, hml, hown, hts⟩ (n_damage l dC dI H.size ed a m0 w1) (va_cwS 1 hts (pw_S q2011 q2012 q49 q2013) rfl rfl rfl (by decide +kernel) ⟨(Nat.le_of_ble_eq_true rfl), (Nat.le_of_ble_eq_true rfl)⟩) ⟨fun a U g mk q => by obtain ⟨q0, q1, qP, qK, qD, qZ⟩ := q; exact ⟨q0, q1, qP, va_K.moved (u := U) (U := U.calling g mk a) (Vm.Alike.refl U.vm) qK, qD, qZ.same rfl⟩, fun U hU hW => ⟨rfl, by rw [hU], by rw [hU]; exact hPc, va_K.moved hW.alike hKc, hDc.weaken (fun _ _ _ _ => trivial), hZ.call hS hFc hU hW⟩⟩ rfl rfl hl.1 rfl (lv_room (Nat.le_of_ble_eq_true rfl)) dX10_damageOfRow_9 ⟨(Nat.le_of_ble_eq_true rfl), (Nat.le_of_ble_eq_true rfl)⟩) hS (fun q _ h => hFc q h) hFc (fun r_423 u t H1 locs ht hvm hw hB hz1 hk1 hS => ?_)
  obtain ⟨hP1, hK1, hD1⟩ := hB
  rw [ht] at hP1
  have hK1 := va_K.moved hvm.symm hK1
  obtain ⟨hP, hD⟩ := va_join (wr := [(h0, .inr (15, [v0, v1, v2, v3, .ref a, .int 0]))]) (w1 := [(a, .inr (4, [.int m0, w1, .int 0]))]) hP hD [1] [0] rfl rfl (by decide) (by decide) hk1 hFc hP1 hD1
  have hK := (hK.sub (tys' := []) [] rfl).app hK1
  generalize H1 = H at hP hS ⊢
  have hP : va_P (dC, dI) vwCl [(h0, .inr (15, [v0, v1, v2, v3, .ref a, .int 0])), (a, .inr (4, [.int m0, w1, .int 0]))] H := hP
  have hD : va_D A [(h0, .inr (15, [v0, v1, v2, v3, .ref a, .int 0])), (a, .inr (4, [.int m0, w1, .int 0]))] := hD
  have hK : va_K (dC, dI) vwCl [] s := hK
  refine W.widen (k := 6) (n := 21) (Nat.le_of_ble_eq_true rfl) (Nat.le_of_ble_eq_true rfl) ?_
  have hw : r_423 = 0 := hw
  subst hw
  have hP9 := hP.sub (ws' := [(h0, .inr (15, [v0, v1, v2, v3, .ref a, .int 0])), (a, .inr (4, [.int m0, w1, .int 0]))]) [0, 1] rfl
  have hD9 := hD.sub (ws' := [(h0, .inr (15, [v0, v1, v2, v3, .ref a, .int 0])), (a, .inr (4, [.int m0, w1, .int 0]))]) [0, 1] (by decide) rfl
  have hK9 := hK.sub (tys' := []) [] rfl
  refine W.widen (k := 6) (n := 21) (Nat.le_of_ble_eq_true rfl) (Nat.le_of_ble_eq_true rfl) ?_
  exact W.lret (v := 0) hx hb hr (fun t ht hW => ⟨⟨0, (), rfl, rfl, ⟨by rw [ht]; exact hP9, va_K.moved hW.alike hK9, hD9⟩⟩, hS.F ht⟩) hS.2.2 dX10_damageOfRow_12
set_option maxHeartbeats 4000000 in
set_option maxRecDepth 100000 in
theorem z_checksum (l : Launch) (dC : Nat → ClassId) (dI : Nat → Nat → Nat) (sz : Nat) (ed : Nat) (h0 : Nat) (a : Nat) (b : Nat) (v1 : Value) (v2 : Value) (v4 : Value) (th : Int32) (m0 : Int32) (k0 : Int32) (w1 : Value) (w2 : Value) : Met l yX10_checksum (pw_ws yX10_checksum cX10_checksum 5 (some .long)) ({ frames := 3, cells := 2, slots := 8, locals := 61 } : Room) (va_Pc [.ref h0] (fun U => U.heap.size = sz ∧ va_P (dC, dI) vwCl [(h0, .inr (15, [.ref a, v1, v2, .ref b, v4, .int th])), (a, .inr (4, [.int m0, w1, .int 0])), (b, .inr (4, [.int k0, w2, .int 0]))] U.heap ∧ va_K (dC, dI) vwCl [] U ∧ va_D (fun _ => True) [(h0, .inr (15, [.ref a, v1, v2, .ref b, v4, .int th])), (a, .inr (4, [.int m0, w1, .int 0])), (b, .inr (4, [.int k0, w2, .int 0]))] ∧ pz ed (va_A [(h0, .inr (15, [.ref a, v1, v2, .ref b, v4, .int th])), (a, .inr (4, [.int m0, w1, .int 0])), (b, .inr (4, [.int k0, w2, .int 0]))] sz) U U.heap)) (va_Ql (fun (r : Int64) (_ : Unit) => r = 7) (fun (_ : Unit) (t : State) => va_P (dC, dI) vwCl [(h0, .inr (15, [.ref a, v1, v2, .ref b, v4, .int 0])), (a, .inr (4, [.int m0, w1, .int 0])), (b, .inr (4, [.int k0, w2, .int 0]))] t.heap ∧ va_K (dC, dI) vwCl [] t ∧ va_D (va_A [(h0, .inr (15, [.ref a, v1, v2, .ref b, v4, .int th])), (a, .inr (4, [.int m0, w1, .int 0])), (b, .inr (4, [.int k0, w2, .int 0]))] sz) [(h0, .inr (15, [.ref a, v1, v2, .ref b, v4, .int 0])), (a, .inr (4, [.int m0, w1, .int 0])), (b, .inr (4, [.int k0, w2, .int 0]))]) (va_A [(h0, .inr (15, [.ref a, v1, v2, .ref b, v4, .int th])), (a, .inr (4, [.int m0, w1, .int 0])), (b, .inr (4, [.int k0, w2, .int 0]))] sz)) 2 8 (va_A [(h0, .inr (15, [.ref a, v1, v2, .ref b, v4, .int th])), (a, .inr (4, [.int m0, w1, .int 0])), (b, .inr (4, [.int k0, w2, .int 0]))] sz) := by
  refine Met.ofW (cc := cX10_checksum) (maxL := 5) (ret := (some .long)) (by decide) rfl ?_
  intro p e s m args below meth c s₁ B hml hv
  obtain ⟨rfl, hsz, hP, hK, hD0, hZ⟩ := hv
  have hx := B.exec
  have hb := B.bytes
  have hr := B.returns
  have hts0 := atoms_spec (ws := (pw_ws yX10_checksum cX10_checksum 5 (some .long))) B.pre
  have hts : ∀ w ∈ pw_all, w.before _ s = true := fun w h => hts0 w (List.mem_cons_of_mem _ h)
  have hown : s.vm.findClass RX10 = some m.cls := findClass_of_methodNamed B.named
  have hlocks := B.notSynchronized
  subst hsz
  have hD := hD0.self (sz := s.heap.size)
  generalize hAe : va_A [(h0, .inr (15, [.ref a, v1, v2, .ref b, v4, .int th])), (a, .inr (4, [.int m0, w1, .int 0])), (b, .inr (4, [.int k0, w2, .int 0]))] s.heap.size = A at hD hZ ⊢
  have hA : ∀ q : Nat, s.heap.size ≤ q → A q := fun q h => by rw [← hAe]; exact Or.inr h
  have hS : va_S A s.heap s.heap [] := va_S.rf
  have hP : va_P (dC, dI) vwCl [(h0, .inr (15, [.ref a, v1, v2, .ref b, v4, .int th])), (a, .inr (4, [.int m0, w1, .int 0])), (b, .inr (4, [.int k0, w2, .int 0]))] s.heap := hP
  have hl := lv_entry ([.ref h0]) (n := 5) (Nat.le_of_ble_eq_true rfl)
  rw [lg_entry_eq]
  generalize (lg_sl ([.ref h0]) ++ List.replicate (5 - (lg_sl ([.ref h0])).length) Slot.unset).toArray = ls at hl ⊢
  have hl : lv_has ls 5 [(0, .ref h0)] := hl
  skip
  refine lv_aload_n hx hb dX10_checksum_0 rfl (lv_at hl 0 rfl) ?_
  refine lv_iconst (v := 0) hx hb dX10_checksum_1 (by decide) ?_
  refine va_put (D := (dC, dI)) (ci := 15) (v := .int 0) (ty := .int) (C := RX10) (T := TX10) (N := 6) hx hb hts inX10 tyX10 tyX10_ok nmX10 hown hK hP hD hS 0 rfl rfl 5 (by decide) (hts _ q1230) (fun _ h9 => h9) rfl (by decide +kernel) rfl rfl (Nat.le_of_ble_eq_true rfl) dX10_checksum_2 (fun H locs hP hD hS => ?_)
  have hP : va_P (dC, dI) vwCl [(h0, .inr (15, [.ref a, v1, v2, .ref b, v4, .int 0])), (a, .inr (4, [.int m0, w1, .int 0])), (b, .inr (4, [.int k0, w2, .int 0]))] H := hP
  have hD : va_D A [(h0, .inr (15, [.ref a, v1, v2, .ref b, v4, .int 0])), (a, .inr (4, [.int m0, w1, .int 0])), (b, .inr (4, [.int k0, w2, .int 0]))] := hD
  refine lv_ldc2 (v := 7) hx hb hown (hts _ q2101) dX10_checksum_5 ?_
  refine lv_lstore_n (lv' := [(1, .long 7), (0, .ref h0)]) hx hb dX10_checksum_8 rfl hl (by decide) rfl (fun ls hl => ?_)
  refine lv_aload_n hx hb dX10_checksum_9 rfl (lv_at hl 1 rfl) ?_
  refine va_get (D := (dC, dI)) (ci := 15) (v := .ref a) (C := RX10) (T := TX10) (N := 6) hx hb hts inX10 hown hK hP 0 rfl rfl 0 (by decide) (hts _ q1225) (fun _ h9 => h9) rfl dX10_checksum_10 ?_
  have hPc := hP.sub (ws' := [(a, .inr (4, [.int m0, w1, .int 0]))]) [1] rfl
  have hDc := hD.sub (ws' := [(a, .inr (4, [.int m0, w1, .int 0]))]) [1] (by decide) rfl
  have hKc := hK.sub (tys' := []) [] rfl
  have hFc := va_free (wc := [(a, .inr (4, [.int m0, w1, .int 0]))]) hD hS hA [1] rfl
  refine va_callr (va_runV (As := []) (rest := []) ⟨hx, hb, hml, hown, hts⟩ (m_iterator l dC dI H.size a m0 w1 (.int 0)) (cwV 0 hts (pw_V q1522 q1523 q1524 q46 q1525) rfl rfl rfl (by decide +kernel) ⟨(Nat.le_of_ble_eq_true rfl), (Nat.le_of_ble_eq_true rfl)⟩) ⟨fun a U g mk q => by obtain ⟨q0, q1, qP, qK, qD⟩ := q; exact ⟨q0, q1, qP, va_K.moved (u := U) (U := U.calling g mk a) (Vm.Alike.refl U.vm) qK, qD⟩, va_recv hKc hPc (ci := 4) (q0 := 0) rfl rfl, fun U hU hW => ⟨rfl, by rw [hU], by rw [hU]; exact hPc, va_K.moved hW.alike hKc, hDc.weaken (fun _ _ _ _ => trivial)⟩⟩ rfl rfl hl.1 rfl (lv_room (Nat.le_of_ble_eq_true rfl)) dX10_checksum_13 ⟨(Nat.le_of_ble_eq_true rfl), (Nat.le_of_ble_eq_true rfl)⟩) hS (fun q _ h => hFc q h) hFc (fun u r_424 t H1 locs ht hvm hw hB hz1 hk1 hS => ?_)
  obtain ⟨hP1, hK1, hD1⟩ := hB
  rw [ht] at hP1
  have hK1 := va_K.moved hvm.symm hK1
  obtain ⟨hP, hD⟩ := va_join (wr := [(h0, .inr (15, [.ref a, v1, v2, .ref b, v4, .int 0])), (b, .inr (4, [.int k0, w2, .int 0]))]) (w1 := [(r_424, .inr (3, [.int 0, .int (-1), .int m0, .ref a])), (a, .inr (4, [.int m0, w1, .int 0]))]) hP hD [1] [0, 2] rfl rfl (by decide) (by decide) hk1 hFc hP1 hD1
  have hK := (hK.sub (tys' := []) [] rfl).app hK1
  generalize H1 = H at hP hS ⊢
  have hP : va_P (dC, dI) vwCl [(h0, .inr (15, [.ref a, v1, v2, .ref b, v4, .int 0])), (b, .inr (4, [.int k0, w2, .int 0])), (r_424, .inr (3, [.int 0, .int (-1), .int m0, .ref a])), (a, .inr (4, [.int m0, w1, .int 0]))] H := hP
  have hD : va_D A [(h0, .inr (15, [.ref a, v1, v2, .ref b, v4, .int 0])), (b, .inr (4, [.int k0, w2, .int 0])), (r_424, .inr (3, [.int 0, .int (-1), .int m0, .ref a])), (a, .inr (4, [.int m0, w1, .int 0]))] := hD
  have hK : va_K (dC, dI) vwCl [] s := hK
  refine W.widen (k := 1) (n := 4) (Nat.le_of_ble_eq_true rfl) (Nat.le_of_ble_eq_true rfl) ?_
  refine lv_astore_n (lv' := [(3, .ref r_424), (1, .long 7), (0, .ref h0)]) hx hb dX10_checksum_16 rfl hl (by decide) rfl (fun ls hl => ?_)
  refine lv_aload_n hx hb dX10_checksum_17 rfl (lv_at hl 0 rfl) ?_
  have hPc := hP.sub (ws' := [(r_424, .inr (3, [.int 0, .int (-1), .int m0, .ref a])), (a, .inr (4, [.int m0, w1, .int 0]))]) [2, 3] rfl
  have hDc := hD.sub (ws' := [(r_424, .inr (3, [.int 0, .int (-1), .int m0, .ref a])), (a, .inr (4, [.int m0, w1, .int 0]))]) [2, 3] (by decide) rfl
  have hKc := hK.sub (tys' := []) [] rfl
  have hFc := va_free (wc := [(r_424, .inr (3, [.int 0, .int (-1), .int m0, .ref a])), (a, .inr (4, [.int m0, w1, .int 0]))]) hD hS hA [2, 3] rfl
  refine va_callFi (va_runF (As := []) (rest := []) (hKc.1 3 _ rfl).2 ⟨hx, hb, hml, hown, hts⟩ (m_hasNext l dC dI H.size ed r_424 a (.int (-1)) (.int m0) (.int m0) w1) (va_cwF 0 hts (pw_F q1546 q1550 q1552 q70 q1554) rfl rfl rfl hZ.iter (by decide +kernel) ⟨(Nat.le_of_ble_eq_true rfl), (Nat.le_of_ble_eq_true rfl)⟩) ⟨fun a U g mk q => by obtain ⟨q0, q1, qP, qK, qD, qZ⟩ := q; exact ⟨q0, q1, qP, va_K.moved (u := U) (U := U.calling g mk a) (Vm.Alike.refl U.vm) qK, qD, qZ.same rfl⟩, va_recv hKc hPc (ci := 3) (q0 := 0) rfl rfl, fun U hU hW => ⟨rfl, by rw [hU], by rw [hU]; exact hPc, va_K.moved hW.alike hKc, hDc.weaken (fun _ _ _ _ => trivial), hZ.call hS hFc hU hW⟩⟩ rfl rfl hl.1 rfl (lv_room (Nat.le_of_ble_eq_true rfl)) dX10_checksum_18 ⟨(Nat.le_of_ble_eq_true rfl), (Nat.le_of_ble_eq_true rfl)⟩) hS (fun q _ h => hFc q h) hFc (fun r_425 u t H1 locs ht hvm hw hB hz1 hk1 hS => ?_)
  obtain ⟨hP1, hK1, hD1⟩ := hB
  rw [ht] at hP1
  have hK1 := va_K.moved hvm.symm hK1
  obtain ⟨hP, hD⟩ := va_join (wr := [(h0, .inr (15, [.ref a, v1, v2, .ref b, v4, .int 0])), (b, .inr (4, [.int k0, w2, .int 0]))]) (w1 := [(r_424, .inr (3, [.int 0, .int (-1), .int m0, .ref a])), (a, .inr (4, [.int m0, w1, .int 0]))]) hP hD [2, 3] [0, 1] rfl rfl (by decide) (by decide) hk1 hFc hP1 hD1
  have hK := (hK.sub (tys' := []) [] rfl).app hK1
  generalize H1 = H at hP hS ⊢
  have hP : va_P (dC, dI) vwCl [(h0, .inr (15, [.ref a, v1, v2, .ref b, v4, .int 0])), (b, .inr (4, [.int k0, w2, .int 0])), (r_424, .inr (3, [.int 0, .int (-1), .int m0, .ref a])), (a, .inr (4, [.int m0, w1, .int 0]))] H := hP
  have hD : va_D A [(h0, .inr (15, [.ref a, v1, v2, .ref b, v4, .int 0])), (b, .inr (4, [.int k0, w2, .int 0])), (r_424, .inr (3, [.int 0, .int (-1), .int m0, .ref a])), (a, .inr (4, [.int m0, w1, .int 0]))] := hD
  have hK : va_K (dC, dI) vwCl [] s := hK
  refine W.widen (k := 1) (n := 4) (Nat.le_of_ble_eq_true rfl) (Nat.le_of_ble_eq_true rfl) ?_
  have hw : r_425 = 0 := hw
  subst hw
  refine lv_if_eq (tgt := 81) hx hb dX10_checksum_23 (by decide) (fun c_426 => ?_) (fun c_426 => absurd (by decide) c_426)
  refine lv_aload_n hx hb dX10_checksum_81 rfl (lv_at hl 2 rfl) ?_
  refine va_get (D := (dC, dI)) (ci := 15) (v := .ref b) (C := RX10) (T := TX10) (N := 6) hx hb hts inX10 hown hK hP 0 rfl rfl 3 (by decide) (hts _ q1228) (fun _ h9 => h9) rfl dX10_checksum_82 ?_
  have hPc := hP.sub (ws' := [(b, .inr (4, [.int k0, w2, .int 0]))]) [1] rfl
  have hDc := hD.sub (ws' := [(b, .inr (4, [.int k0, w2, .int 0]))]) [1] (by decide) rfl
  have hKc := hK.sub (tys' := []) [] rfl
  have hFc := va_free (wc := [(b, .inr (4, [.int k0, w2, .int 0]))]) hD hS hA [1] rfl
  refine va_callr (va_runV (As := []) (rest := []) ⟨hx, hb, hml, hown, hts⟩ (m_iterator l dC dI H.size b k0 w2 (.int 0)) (cwV 0 hts (pw_V q1522 q1523 q1524 q46 q1525) rfl rfl rfl (by decide +kernel) ⟨(Nat.le_of_ble_eq_true rfl), (Nat.le_of_ble_eq_true rfl)⟩) ⟨fun a U g mk q => by obtain ⟨q0, q1, qP, qK, qD⟩ := q; exact ⟨q0, q1, qP, va_K.moved (u := U) (U := U.calling g mk a) (Vm.Alike.refl U.vm) qK, qD⟩, va_recv hKc hPc (ci := 4) (q0 := 0) rfl rfl, fun U hU hW => ⟨rfl, by rw [hU], by rw [hU]; exact hPc, va_K.moved hW.alike hKc, hDc.weaken (fun _ _ _ _ => trivial)⟩⟩ rfl rfl hl.1 rfl (lv_room (Nat.le_of_ble_eq_true rfl)) dX10_checksum_85 ⟨(Nat.le_of_ble_eq_true rfl), (Nat.le_of_ble_eq_true rfl)⟩) hS (fun q _ h => hFc q h) hFc (fun u r_427 t H1 locs ht hvm hw hB hz1 hk1 hS => ?_)
  obtain ⟨hP1, hK1, hD1⟩ := hB
  rw [ht] at hP1
  have hK1 := va_K.moved hvm.symm hK1
  obtain ⟨hP, hD⟩ := va_join (wr := [(h0, .inr (15, [.ref a, v1, v2, .ref b, v4, .int 0])), (r_424, .inr (3, [.int 0, .int (-1), .int m0, .ref a])), (a, .inr (4, [.int m0, w1, .int 0]))]) (w1 := [(r_427, .inr (3, [.int 0, .int (-1), .int k0, .ref b])), (b, .inr (4, [.int k0, w2, .int 0]))]) hP hD [1] [0, 2, 3] rfl rfl (by decide) (by decide) hk1 hFc hP1 hD1
  have hK := (hK.sub (tys' := []) [] rfl).app hK1
  generalize H1 = H at hP hS ⊢
  have hP : va_P (dC, dI) vwCl [(h0, .inr (15, [.ref a, v1, v2, .ref b, v4, .int 0])), (r_424, .inr (3, [.int 0, .int (-1), .int m0, .ref a])), (a, .inr (4, [.int m0, w1, .int 0])), (r_427, .inr (3, [.int 0, .int (-1), .int k0, .ref b])), (b, .inr (4, [.int k0, w2, .int 0]))] H := hP
  have hD : va_D A [(h0, .inr (15, [.ref a, v1, v2, .ref b, v4, .int 0])), (r_424, .inr (3, [.int 0, .int (-1), .int m0, .ref a])), (a, .inr (4, [.int m0, w1, .int 0])), (r_427, .inr (3, [.int 0, .int (-1), .int k0, .ref b])), (b, .inr (4, [.int k0, w2, .int 0]))] := hD
  have hK : va_K (dC, dI) vwCl [] s := hK
  refine W.widen (k := 2) (n := 8) (Nat.le_of_ble_eq_true rfl) (Nat.le_of_ble_eq_true rfl) ?_
  refine lv_astore_n (lv' := [(3, .ref r_427), (1, .long 7), (0, .ref h0)]) hx hb dX10_checksum_88 rfl hl (by decide) rfl (fun ls hl => ?_)
  refine lv_aload_n hx hb dX10_checksum_89 rfl (lv_at hl 0 rfl) ?_
  have hPc := hP.sub (ws' := [(r_427, .inr (3, [.int 0, .int (-1), .int k0, .ref b])), (b, .inr (4, [.int k0, w2, .int 0]))]) [3, 4] rfl
  have hDc := hD.sub (ws' := [(r_427, .inr (3, [.int 0, .int (-1), .int k0, .ref b])), (b, .inr (4, [.int k0, w2, .int 0]))]) [3, 4] (by decide) rfl
  have hKc := hK.sub (tys' := []) [] rfl
  have hFc := va_free (wc := [(r_427, .inr (3, [.int 0, .int (-1), .int k0, .ref b])), (b, .inr (4, [.int k0, w2, .int 0]))]) hD hS hA [3, 4] rfl
  refine va_callFi (va_runF (As := []) (rest := []) (hKc.1 3 _ rfl).2 ⟨hx, hb, hml, hown, hts⟩ (m_hasNext l dC dI H.size ed r_427 b (.int (-1)) (.int k0) (.int k0) w2) (va_cwF 0 hts (pw_F q1546 q1550 q1552 q70 q1554) rfl rfl rfl hZ.iter (by decide +kernel) ⟨(Nat.le_of_ble_eq_true rfl), (Nat.le_of_ble_eq_true rfl)⟩) ⟨fun a U g mk q => by obtain ⟨q0, q1, qP, qK, qD, qZ⟩ := q; exact ⟨q0, q1, qP, va_K.moved (u := U) (U := U.calling g mk a) (Vm.Alike.refl U.vm) qK, qD, qZ.same rfl⟩, va_recv hKc hPc (ci := 3) (q0 := 0) rfl rfl, fun U hU hW => ⟨rfl, by rw [hU], by rw [hU]; exact hPc, va_K.moved hW.alike hKc, hDc.weaken (fun _ _ _ _ => trivial), hZ.call hS hFc hU hW⟩⟩ rfl rfl hl.1 rfl (lv_room (Nat.le_of_ble_eq_true rfl)) dX10_checksum_90 ⟨(Nat.le_of_ble_eq_true rfl), (Nat.le_of_ble_eq_true rfl)⟩) hS (fun q _ h => hFc q h) hFc (fun r_428 u t H1 locs ht hvm hw hB hz1 hk1 hS => ?_)
  obtain ⟨hP1, hK1, hD1⟩ := hB
  rw [ht] at hP1
  have hK1 := va_K.moved hvm.symm hK1
  obtain ⟨hP, hD⟩ := va_join (wr := [(h0, .inr (15, [.ref a, v1, v2, .ref b, v4, .int 0])), (r_424, .inr (3, [.int 0, .int (-1), .int m0, .ref a])), (a, .inr (4, [.int m0, w1, .int 0]))]) (w1 := [(r_427, .inr (3, [.int 0, .int (-1), .int k0, .ref b])), (b, .inr (4, [.int k0, w2, .int 0]))]) hP hD [3, 4] [0, 1, 2] rfl rfl (by decide) (by decide) hk1 hFc hP1 hD1
  have hK := (hK.sub (tys' := []) [] rfl).app hK1
  generalize H1 = H at hP hS ⊢
  have hP : va_P (dC, dI) vwCl [(h0, .inr (15, [.ref a, v1, v2, .ref b, v4, .int 0])), (r_424, .inr (3, [.int 0, .int (-1), .int m0, .ref a])), (a, .inr (4, [.int m0, w1, .int 0])), (r_427, .inr (3, [.int 0, .int (-1), .int k0, .ref b])), (b, .inr (4, [.int k0, w2, .int 0]))] H := hP
  have hD : va_D A [(h0, .inr (15, [.ref a, v1, v2, .ref b, v4, .int 0])), (r_424, .inr (3, [.int 0, .int (-1), .int m0, .ref a])), (a, .inr (4, [.int m0, w1, .int 0])), (r_427, .inr (3, [.int 0, .int (-1), .int k0, .ref b])), (b, .inr (4, [.int k0, w2, .int 0]))] := hD
  have hK : va_K (dC, dI) vwCl [] s := hK
  refine W.widen (k := 2) (n := 8) (Nat.le_of_ble_eq_true rfl) (Nat.le_of_ble_eq_true rfl) ?_
  have hw : r_428 = 0 := hw
  subst hw
  refine lv_if_eq (tgt := 154) hx hb dX10_checksum_95 (by decide) (fun c_429 => ?_) (fun c_429 => absurd (by decide) c_429)
  refine lv_lload_n hx hb dX10_checksum_154 rfl (lv_at hl 1 rfl) ?_
  have hP9 := hP.sub (ws' := [(h0, .inr (15, [.ref a, v1, v2, .ref b, v4, .int 0])), (a, .inr (4, [.int m0, w1, .int 0])), (b, .inr (4, [.int k0, w2, .int 0]))]) [0, 2, 4] rfl
  have hD9 := hD.sub (ws' := [(h0, .inr (15, [.ref a, v1, v2, .ref b, v4, .int 0])), (a, .inr (4, [.int m0, w1, .int 0])), (b, .inr (4, [.int k0, w2, .int 0]))]) [0, 2, 4] (by decide) rfl
  have hK9 := hK.sub (tys' := []) [] rfl
  refine W.widen (k := 2) (n := 8) (Nat.le_of_ble_eq_true rfl) (Nat.le_of_ble_eq_true rfl) ?_
  exact W.lret (v := 7) hx hb hr (fun t ht hW => ⟨⟨7, (), rfl, rfl, ⟨by rw [ht]; exact hP9, va_K.moved hW.alike hK9, hD9⟩⟩, hS.F ht⟩) hS.2.2 dX10_checksum_155
