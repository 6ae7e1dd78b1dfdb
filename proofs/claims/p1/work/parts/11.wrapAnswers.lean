set_option maxHeartbeats 4000000 in
set_option maxRecDepth 100000 in
theorem w_addStructure (l : Launch) (dC : Nat → ClassId) (dI : Nat → Nat → Nat) (sz : Nat) (ed : Nat) (h0 : Nat) (a : Nat) (ou : Nat) (v1 : Value) (v2 : Value) (v3 : Value) (v4 : Value) (v5 : Value) (v6 : Value) (v7 : Value) (m0 : Int32) (cO : ClassId) (g : Nat → Int64) : Met l yL_addStructure (pw_wh yL_addStructure cL_addStructure 3 (some .int) [(0, 8, 11, 13)]) ({ frames := 6, cells := 13, slots := 72, locals := 127 } : Room) (va_Pc [.ref h0, .ref ou] (fun U => U.heap.size = sz ∧ va_P (dC, dI) vwCl [(h0, .inr (11, [.ref a, v1, v2, v3, v4, v5, v6, v7])), (a, .inr (4, [.int m0, .ref ed, .int 0])), (ou, .inl (cO, 1, .inr (.inl g)))] U.heap ∧ va_K (dC, dI) vwCl [(cO, .long)] U ∧ va_D (fun _ => True) [(h0, .inr (11, [.ref a, v1, v2, v3, v4, v5, v6, v7])), (a, .inr (4, [.int m0, .ref ed, .int 0])), (ou, .inl (cO, 1, .inr (.inl g)))] ∧ pz ed (va_A [(h0, .inr (11, [.ref a, v1, v2, v3, v4, v5, v6, v7])), (a, .inr (4, [.int m0, .ref ed, .int 0])), (ou, .inl (cO, 1, .inr (.inl g)))] sz) U U.heap)) (va_Qi (fun (r : Int32) (_ : Unit) => r = 0) (fun (_ : Unit) (t : State) => ∃ (qb : Nat), va_P (dC, dI) vwCl [(h0, .inr (11, [.ref a, v1, v2, v3, v4, v5, v6, v7])), (a, .inr (4, [.int (m0 + 1), .ref qb, .int 1])), (ou, .inl (cO, 1, .inr (.inl (vp_updL g 0 0))))] t.heap ∧ va_K (dC, dI) vwCl [(cO, .long)] t ∧ va_D (va_A [(h0, .inr (11, [.ref a, v1, v2, v3, v4, v5, v6, v7])), (a, .inr (4, [.int m0, .ref ed, .int 0])), (ou, .inl (cO, 1, .inr (.inl g)))] sz) [(h0, .inr (11, [.ref a, v1, v2, v3, v4, v5, v6, v7])), (a, .inr (4, [.int (m0 + 1), .ref qb, .int 1])), (ou, .inl (cO, 1, .inr (.inl (vp_updL g 0 0))))]) (va_A [(h0, .inr (11, [.ref a, v1, v2, v3, v4, v5, v6, v7])), (a, .inr (4, [.int m0, .ref ed, .int 0])), (ou, .inl (cO, 1, .inr (.inl g)))] sz)) 13 72 (va_A [(h0, .inr (11, [.ref a, v1, v2, v3, v4, v5, v6, v7])), (a, .inr (4, [.int m0, .ref ed, .int 0])), (ou, .inl (cO, 1, .inr (.inl g)))] sz) := by
  refine va_MetW (cc := cL_addStructure) (maxL := 3) (ret := (some .int)) (by decide) rfl ?_
  intro p e s m args below meth c s₁ B hml hv
  obtain ⟨rfl, hsz, hP, hK, hD0, hZ⟩ := hv
  have hx := B.exec
  have hb := B.bytes
  have hr := B.returns
  have hts0 := atoms_spec (ws := (pw_wh yL_addStructure cL_addStructure 3 (some .int) [(0, 8, 11, 13)])) B.pre
  have hts : ∀ w ∈ pw_all, w.before _ s = true := fun w h => hts0 w (List.mem_cons_of_mem _ h)
  have hown : s.vm.findClass RL = some m.cls := findClass_of_methodNamed B.named
  have hlocks := B.notSynchronized
  have hTab := vx_table (x := objectInit) B (hts0 _ List.mem_cons_self)
  subst hsz
  have hD := hD0.self (sz := s.heap.size)
  generalize hAe : va_A [(h0, .inr (11, [.ref a, v1, v2, v3, v4, v5, v6, v7])), (a, .inr (4, [.int m0, .ref ed, .int 0])), (ou, .inl (cO, 1, .inr (.inl g)))] s.heap.size = A at hD hZ ⊢
  have hA : ∀ q : Nat, s.heap.size ≤ q → A q := fun q h => by rw [← hAe]; exact Or.inr h
  have hS : va_S A s.heap s.heap [] := va_S.rf
  have hP : va_P (dC, dI) vwCl [(h0, .inr (11, [.ref a, v1, v2, v3, v4, v5, v6, v7])), (a, .inr (4, [.int m0, .ref ed, .int 0])), (ou, .inl (cO, 1, .inr (.inl g)))] s.heap := hP
  have hl := lv_entry ([.ref h0, .ref ou]) (n := 3) (Nat.le_of_ble_eq_true rfl)
  rw [lg_entry_eq]
  generalize (lg_sl ([.ref h0, .ref ou]) ++ List.replicate (3 - (lg_sl ([.ref h0, .ref ou])).length) Slot.unset).toArray = ls at hl ⊢
  have hl : lv_has ls 3 [(0, .ref h0), (1, .ref ou)] := hl
  skip
  refine lv_aload_n hx hb dL_addStructure_0 rfl (lv_at hl 1 rfl) ?_
  refine lv_iconst (v := 0) hx hb dL_addStructure_1 (by decide) ?_
  refine lv_aload_n hx hb dL_addStructure_2 rfl (lv_at hl 0 rfl) ?_
  have hPc := hP.sub (ws' := [(h0, .inr (11, [.ref a, v1, v2, v3, v4, v5, v6, v7])), (a, .inr (4, [.int m0, .ref ed, .int 0]))]) [0, 1] rfl
  have hDc := hD.sub (ws' := [(h0, .inr (11, [.ref a, v1, v2, v3, v4, v5, v6, v7])), (a, .inr (4, [.int m0, .ref ed, .int 0]))]) [0, 1] (by decide) rfl
  have hKc := hK.sub (tys' := []) [] rfl
  have hFc := va_free (wc := [(h0, .inr (11, [.ref a, v1, v2, v3, v4, v5, v6, v7])), (a, .inr (4, [.int m0, .ref ed, .int 0]))]) hD hS hA [0, 1] rfl
  refine va_calli (va_runV (As := []) (rest := [.int 0, .ref ou]) ⟨hx, hb, hml, hown, hts⟩ (o_addStructure l dC dI s.heap.size ed h0 a v1 v2 v3 v4 v5 v6 v7 m0) (cwV 0 hts (pw_V q319 q320 q321 q43 q322) rfl rfl rfl (by decide +kernel) ⟨(Nat.le_of_ble_eq_true rfl), (Nat.le_of_ble_eq_true rfl)⟩) ⟨fun a U g mk q => by obtain ⟨q0, q1, qP, qK, qD, qZ⟩ := q; exact ⟨q0, q1, qP, va_K.moved (u := U) (U := U.calling g mk a) (Vm.Alike.refl U.vm) qK, qD, qZ.same rfl⟩, va_recv hKc hPc (ci := 11) (q0 := 0) rfl rfl, fun U hU hW => ⟨rfl, by rw [hU], by rw [hU]; exact hPc, va_K.moved hW.alike hKc, hDc.weaken (fun _ _ _ _ => trivial), hZ.call hS hFc hU hW⟩⟩ rfl rfl hl.1 rfl (lv_room (Nat.le_of_ble_eq_true rfl)) dL_addStructure_3 ⟨(Nat.le_of_ble_eq_true rfl), (Nat.le_of_ble_eq_true rfl)⟩) hS (fun q _ h => hFc q h) hFc (fun r_227 u t H1 locs ht hvm hw hB hz1 hk1 hS => ?_)
  obtain ⟨qb_228, hP1, hK1, hD1⟩ := hB
  rw [ht] at hP1
  have hK1 := va_K.moved hvm.symm hK1
  obtain ⟨hP, hD⟩ := va_join (wr := [(ou, .inl (cO, 1, .inr (.inl g)))]) (w1 := [(h0, .inr (11, [.ref a, v1, v2, v3, v4, v5, v6, v7])), (a, .inr (4, [.int (m0 + 1), .ref qb_228, .int 1]))]) hP hD [0, 1] [2] rfl rfl (by decide) (by decide) hk1 hFc hP1 hD1
  have hK := (hK.sub (tys' := [(cO, .long)]) [0] rfl).app hK1
  generalize H1 = H at hP hS ⊢
  have hP : va_P (dC, dI) vwCl [(ou, .inl (cO, 1, .inr (.inl g))), (h0, .inr (11, [.ref a, v1, v2, v3, v4, v5, v6, v7])), (a, .inr (4, [.int (m0 + 1), .ref qb_228, .int 1]))] H := hP
  have hD : va_D A [(ou, .inl (cO, 1, .inr (.inl g))), (h0, .inr (11, [.ref a, v1, v2, v3, v4, v5, v6, v7])), (a, .inr (4, [.int (m0 + 1), .ref qb_228, .int 1]))] := hD
  have hK : va_K (dC, dI) vwCl [(cO, .long)] s := hK
  refine W.widen (k := 13) (n := 72) (Nat.le_of_ble_eq_true rfl) (Nat.le_of_ble_eq_true rfl) ?_
  have hw : r_227 = 0 := hw
  subst hw
  refine lv_i2l (v := 0) hx hb dL_addStructure_6 (by decide) ?_
  refine va_last hx hb hK hP hD hS 0 0 rfl rfl (by unfold vp_in; decide) dL_addStructure_7 (fun H locs hP hD hS => ?_)
  rw [show (0 : Int32).toNatClampNeg = 0 from by decide] at hP hD
  have hP : va_P (dC, dI) vwCl [(ou, .inl (cO, 1, .inr (.inl (vp_updL g 0 0)))), (h0, .inr (11, [.ref a, v1, v2, v3, v4, v5, v6, v7])), (a, .inr (4, [.int (m0 + 1), .ref qb_228, .int 1]))] H := hP
  have hD : va_D A [(ou, .inl (cO, 1, .inr (.inl (vp_updL g 0 0)))), (h0, .inr (11, [.ref a, v1, v2, v3, v4, v5, v6, v7])), (a, .inr (4, [.int (m0 + 1), .ref qb_228, .int 1]))] := hD
  refine lv_goto (tgt := 14) hx hb dL_addStructure_8 (by decide) ?_
  refine lv_iconst (v := 0) hx hb dL_addStructure_14 (by decide) ?_
  have hP9 := hP.sub (ws' := [(h0, .inr (11, [.ref a, v1, v2, v3, v4, v5, v6, v7])), (a, .inr (4, [.int (m0 + 1), .ref qb_228, .int 1])), (ou, .inl (cO, 1, .inr (.inl (vp_updL g 0 0))))]) [1, 2, 0] rfl
  have hD9 := hD.sub (ws' := [(h0, .inr (11, [.ref a, v1, v2, v3, v4, v5, v6, v7])), (a, .inr (4, [.int (m0 + 1), .ref qb_228, .int 1])), (ou, .inl (cO, 1, .inr (.inl (vp_updL g 0 0))))]) [1, 2, 0] (by decide) rfl
  have hK9 := hK.sub (tys' := [(cO, .long)]) [0] rfl
  refine W.widen (k := 13) (n := 72) (Nat.le_of_ble_eq_true rfl) (Nat.le_of_ble_eq_true rfl) ?_
  exact W.iret (v := 0) hx hb hr (fun t ht hW => ⟨⟨0, (), rfl, rfl, ⟨qb_228, by rw [ht]; exact hP9, va_K.moved hW.alike hK9, hD9⟩⟩, hS.F ht⟩) hS.2.2 dL_addStructure_15
set_option maxHeartbeats 4000000 in
set_option maxRecDepth 100000 in
theorem w_addSpecification (l : Launch) (dC : Nat → ClassId) (dI : Nat → Nat → Nat) (sz : Nat) (ed : Nat) (h0 : Nat) (a : Nat) (ou : Nat) (v0 : Value) (v1 : Value) (v3 : Value) (v4 : Value) (v5 : Value) (v6 : Value) (v7 : Value) (m0 : Int32) (cO : ClassId) (g : Nat → Int64) : Met l yL_addSpecification (pw_wh yL_addSpecification cL_addSpecification 3 (some .int) [(0, 8, 11, 13)]) ({ frames := 6, cells := 4, slots := 28, locals := 127 } : Room) (va_Pc [.ref h0, .ref ou] (fun U => U.heap.size = sz ∧ va_P (dC, dI) vwCl [(h0, .inr (11, [v0, v1, .ref a, v3, v4, v5, v6, v7])), (a, .inr (4, [.int m0, .ref ed, .int 0])), (ou, .inl (cO, 1, .inr (.inl g)))] U.heap ∧ va_K (dC, dI) vwCl [(cO, .long)] U ∧ va_D (fun _ => True) [(h0, .inr (11, [v0, v1, .ref a, v3, v4, v5, v6, v7])), (a, .inr (4, [.int m0, .ref ed, .int 0])), (ou, .inl (cO, 1, .inr (.inl g)))] ∧ pz ed (va_A [(h0, .inr (11, [v0, v1, .ref a, v3, v4, v5, v6, v7])), (a, .inr (4, [.int m0, .ref ed, .int 0])), (ou, .inl (cO, 1, .inr (.inl g)))] sz) U U.heap)) (va_Qi (fun (r : Int32) (_ : Unit) => r = 0) (fun (_ : Unit) (t : State) => ∃ (qb : Nat), va_P (dC, dI) vwCl [(h0, .inr (11, [v0, v1, .ref a, v3, v4, v5, v6, v7])), (a, .inr (4, [.int (m0 + 1), .ref qb, .int 1])), (ou, .inl (cO, 1, .inr (.inl (vp_updL g 0 0))))] t.heap ∧ va_K (dC, dI) vwCl [(cO, .long)] t ∧ va_D (va_A [(h0, .inr (11, [v0, v1, .ref a, v3, v4, v5, v6, v7])), (a, .inr (4, [.int m0, .ref ed, .int 0])), (ou, .inl (cO, 1, .inr (.inl g)))] sz) [(h0, .inr (11, [v0, v1, .ref a, v3, v4, v5, v6, v7])), (a, .inr (4, [.int (m0 + 1), .ref qb, .int 1])), (ou, .inl (cO, 1, .inr (.inl (vp_updL g 0 0))))]) (va_A [(h0, .inr (11, [v0, v1, .ref a, v3, v4, v5, v6, v7])), (a, .inr (4, [.int m0, .ref ed, .int 0])), (ou, .inl (cO, 1, .inr (.inl g)))] sz)) 4 28 (va_A [(h0, .inr (11, [v0, v1, .ref a, v3, v4, v5, v6, v7])), (a, .inr (4, [.int m0, .ref ed, .int 0])), (ou, .inl (cO, 1, .inr (.inl g)))] sz) := by
  refine va_MetW (cc := cL_addSpecification) (maxL := 3) (ret := (some .int)) (by decide) rfl ?_
  intro p e s m args below meth c s₁ B hml hv
  obtain ⟨rfl, hsz, hP, hK, hD0, hZ⟩ := hv
  have hx := B.exec
  have hb := B.bytes
  have hr := B.returns
  have hts0 := atoms_spec (ws := (pw_wh yL_addSpecification cL_addSpecification 3 (some .int) [(0, 8, 11, 13)])) B.pre
  have hts : ∀ w ∈ pw_all, w.before _ s = true := fun w h => hts0 w (List.mem_cons_of_mem _ h)
  have hown : s.vm.findClass RL = some m.cls := findClass_of_methodNamed B.named
  have hlocks := B.notSynchronized
  have hTab := vx_table (x := objectInit) B (hts0 _ List.mem_cons_self)
  subst hsz
  have hD := hD0.self (sz := s.heap.size)
  generalize hAe : va_A [(h0, .inr (11, [v0, v1, .ref a, v3, v4, v5, v6, v7])), (a, .inr (4, [.int m0, .ref ed, .int 0])), (ou, .inl (cO, 1, .inr (.inl g)))] s.heap.size = A at hD hZ ⊢
  have hA : ∀ q : Nat, s.heap.size ≤ q → A q := fun q h => by rw [← hAe]; exact Or.inr h
  have hS : va_S A s.heap s.heap [] := va_S.rf
  have hP : va_P (dC, dI) vwCl [(h0, .inr (11, [v0, v1, .ref a, v3, v4, v5, v6, v7])), (a, .inr (4, [.int m0, .ref ed, .int 0])), (ou, .inl (cO, 1, .inr (.inl g)))] s.heap := hP
  have hl := lv_entry ([.ref h0, .ref ou]) (n := 3) (Nat.le_of_ble_eq_true rfl)
  rw [lg_entry_eq]
  generalize (lg_sl ([.ref h0, .ref ou]) ++ List.replicate (3 - (lg_sl ([.ref h0, .ref ou])).length) Slot.unset).toArray = ls at hl ⊢
  have hl : lv_has ls 3 [(0, .ref h0), (1, .ref ou)] := hl
  skip
  refine lv_aload_n hx hb dL_addSpecification_0 rfl (lv_at hl 1 rfl) ?_
  refine lv_iconst (v := 0) hx hb dL_addSpecification_1 (by decide) ?_
  refine lv_aload_n hx hb dL_addSpecification_2 rfl (lv_at hl 0 rfl) ?_
  have hPc := hP.sub (ws' := [(h0, .inr (11, [v0, v1, .ref a, v3, v4, v5, v6, v7])), (a, .inr (4, [.int m0, .ref ed, .int 0]))]) [0, 1] rfl
  have hDc := hD.sub (ws' := [(h0, .inr (11, [v0, v1, .ref a, v3, v4, v5, v6, v7])), (a, .inr (4, [.int m0, .ref ed, .int 0]))]) [0, 1] (by decide) rfl
  have hKc := hK.sub (tys' := []) [] rfl
  have hFc := va_free (wc := [(h0, .inr (11, [v0, v1, .ref a, v3, v4, v5, v6, v7])), (a, .inr (4, [.int m0, .ref ed, .int 0]))]) hD hS hA [0, 1] rfl
  refine va_calli (va_runV (As := []) (rest := [.int 0, .ref ou]) ⟨hx, hb, hml, hown, hts⟩ (o_addSpecification l dC dI s.heap.size ed h0 a v0 v1 v3 v4 v5 v6 v7 m0) (cwV 0 hts (pw_V q714 q715 q716 q43 q717) rfl rfl rfl (by decide +kernel) ⟨(Nat.le_of_ble_eq_true rfl), (Nat.le_of_ble_eq_true rfl)⟩) ⟨fun a U g mk q => by obtain ⟨q0, q1, qP, qK, qD, qZ⟩ := q; exact ⟨q0, q1, qP, va_K.moved (u := U) (U := U.calling g mk a) (Vm.Alike.refl U.vm) qK, qD, qZ.same rfl⟩, va_recv hKc hPc (ci := 11) (q0 := 0) rfl rfl, fun U hU hW => ⟨rfl, by rw [hU], by rw [hU]; exact hPc, va_K.moved hW.alike hKc, hDc.weaken (fun _ _ _ _ => trivial), hZ.call hS hFc hU hW⟩⟩ rfl rfl hl.1 rfl (lv_room (Nat.le_of_ble_eq_true rfl)) dL_addSpecification_3 ⟨(Nat.le_of_ble_eq_true rfl), (Nat.le_of_ble_eq_true rfl)⟩) hS (fun q _ h => hFc q h) hFc (fun r_229 u t H1 locs ht hvm hw hB hz1 hk1 hS => ?_)
  obtain ⟨qb_230, hP1, hK1, hD1⟩ := hB
  rw [ht] at hP1
  have hK1 := va_K.moved hvm.symm hK1
  obtain ⟨hP, hD⟩ := va_join (wr := [(ou, .inl (cO, 1, .inr (.inl g)))]) (w1 := [(h0, .inr (11, [v0, v1, .ref a, v3, v4, v5, v6, v7])), (a, .inr (4, [.int (m0 + 1), .ref qb_230, .int 1]))]) hP hD [0, 1] [2] rfl rfl (by decide) (by decide) hk1 hFc hP1 hD1
  have hK := (hK.sub (tys' := [(cO, .long)]) [0] rfl).app hK1
  generalize H1 = H at hP hS ⊢
  have hP : va_P (dC, dI) vwCl [(ou, .inl (cO, 1, .inr (.inl g))), (h0, .inr (11, [v0, v1, .ref a, v3, v4, v5, v6, v7])), (a, .inr (4, [.int (m0 + 1), .ref qb_230, .int 1]))] H := hP
  have hD : va_D A [(ou, .inl (cO, 1, .inr (.inl g))), (h0, .inr (11, [v0, v1, .ref a, v3, v4, v5, v6, v7])), (a, .inr (4, [.int (m0 + 1), .ref qb_230, .int 1]))] := hD
  have hK : va_K (dC, dI) vwCl [(cO, .long)] s := hK
  refine W.widen (k := 4) (n := 28) (Nat.le_of_ble_eq_true rfl) (Nat.le_of_ble_eq_true rfl) ?_
  have hw : r_229 = 0 := hw
  subst hw
  refine lv_i2l (v := 0) hx hb dL_addSpecification_6 (by decide) ?_
  refine va_last hx hb hK hP hD hS 0 0 rfl rfl (by unfold vp_in; decide) dL_addSpecification_7 (fun H locs hP hD hS => ?_)
  rw [show (0 : Int32).toNatClampNeg = 0 from by decide] at hP hD
  have hP : va_P (dC, dI) vwCl [(ou, .inl (cO, 1, .inr (.inl (vp_updL g 0 0)))), (h0, .inr (11, [v0, v1, .ref a, v3, v4, v5, v6, v7])), (a, .inr (4, [.int (m0 + 1), .ref qb_230, .int 1]))] H := hP
  have hD : va_D A [(ou, .inl (cO, 1, .inr (.inl (vp_updL g 0 0)))), (h0, .inr (11, [v0, v1, .ref a, v3, v4, v5, v6, v7])), (a, .inr (4, [.int (m0 + 1), .ref qb_230, .int 1]))] := hD
  refine lv_goto (tgt := 14) hx hb dL_addSpecification_8 (by decide) ?_
  refine lv_iconst (v := 0) hx hb dL_addSpecification_14 (by decide) ?_
  have hP9 := hP.sub (ws' := [(h0, .inr (11, [v0, v1, .ref a, v3, v4, v5, v6, v7])), (a, .inr (4, [.int (m0 + 1), .ref qb_230, .int 1])), (ou, .inl (cO, 1, .inr (.inl (vp_updL g 0 0))))]) [1, 2, 0] rfl
  have hD9 := hD.sub (ws' := [(h0, .inr (11, [v0, v1, .ref a, v3, v4, v5, v6, v7])), (a, .inr (4, [.int (m0 + 1), .ref qb_230, .int 1])), (ou, .inl (cO, 1, .inr (.inl (vp_updL g 0 0))))]) [1, 2, 0] (by decide) rfl
  have hK9 := hK.sub (tys' := [(cO, .long)]) [0] rfl
  refine W.widen (k := 4) (n := 28) (Nat.le_of_ble_eq_true rfl) (Nat.le_of_ble_eq_true rfl) ?_
  exact W.iret (v := 0) hx hb hr (fun t ht hW => ⟨⟨0, (), rfl, rfl, ⟨qb_230, by rw [ht]; exact hP9, va_K.moved hW.alike hK9, hD9⟩⟩, hS.F ht⟩) hS.2.2 dL_addSpecification_15
set_option maxHeartbeats 4000000 in
set_option maxRecDepth 100000 in
theorem w_typeOk (l : Launch) (dC : Nat → ClassId) (dI : Nat → Nat → Nat) (sz : Nat) (h0 : Nat) (tt : Nat) (ou : Nat) (v0 : Value) (v1 : Value) (v2 : Value) (v3 : Value) (v6 : Value) (v7 : Value) (cT : ClassId) (cO : ClassId) (f : Nat → Int32) (g : Nat → Int64) (p0 : Int32) (h1 : ¬ p0 < (-99999)) (h2 : p0 ≤ 99999) : Met l yL_type (pw_wh yL_type cL_type 4 (some .int) [(0, 9, 12, 21), (0, 9, 15, 13)]) ({ frames := 3, cells := 0, slots := 0, locals := 63 } : Room) (va_Pc [.ref h0, .int p0, .ref ou] (fun U => U.heap.size = sz ∧ va_P (dC, dI) vwCl [(h0, .inr (11, [v0, v1, v2, v3, .ref tt, .int 0, v6, v7])), (tt, .inl (cT, 24, .inl f)), (ou, .inl (cO, 1, .inr (.inl g)))] U.heap ∧ va_K (dC, dI) vwCl [(cT, .int), (cO, .long)] U ∧ va_D (fun _ => True) [(h0, .inr (11, [v0, v1, v2, v3, .ref tt, .int 0, v6, v7])), (tt, .inl (cT, 24, .inl f)), (ou, .inl (cO, 1, .inr (.inl g)))])) (va_Qi (fun (r : Int32) (_ : Unit) => r = 0) (fun (_ : Unit) (t : State) => ∃ (f2 : Nat → Int32), va_P (dC, dI) vwCl [(h0, .inr (11, [v0, v1, v2, v3, .ref tt, .int 1, v6, v7])), (tt, .inl (cT, 24, .inl f2)), (ou, .inl (cO, 1, .inr (.inl (vp_updL g 0 1))))] t.heap ∧ va_K (dC, dI) vwCl [(cT, .int), (cO, .long)] t ∧ va_D (va_A [(h0, .inr (11, [v0, v1, v2, v3, .ref tt, .int 0, v6, v7])), (tt, .inl (cT, 24, .inl f)), (ou, .inl (cO, 1, .inr (.inl g)))] sz) [(h0, .inr (11, [v0, v1, v2, v3, .ref tt, .int 1, v6, v7])), (tt, .inl (cT, 24, .inl f2)), (ou, .inl (cO, 1, .inr (.inl (vp_updL g 0 1))))]) (va_A [(h0, .inr (11, [v0, v1, v2, v3, .ref tt, .int 0, v6, v7])), (tt, .inl (cT, 24, .inl f)), (ou, .inl (cO, 1, .inr (.inl g)))] sz)) 0 0 (va_A [(h0, .inr (11, [v0, v1, v2, v3, .ref tt, .int 0, v6, v7])), (tt, .inl (cT, 24, .inl f)), (ou, .inl (cO, 1, .inr (.inl g)))] sz) := by
  refine va_MetW (cc := cL_type) (maxL := 4) (ret := (some .int)) (by decide) rfl ?_
  intro p e s m args below meth c s₁ B hml hv
  obtain ⟨rfl, hsz, hP, hK, hD0⟩ := hv
  have hx := B.exec
  have hb := B.bytes
  have hr := B.returns
  have hts0 := atoms_spec (ws := (pw_wh yL_type cL_type 4 (some .int) [(0, 9, 12, 21), (0, 9, 15, 13)])) B.pre
  have hts : ∀ w ∈ pw_all, w.before _ s = true := fun w h => hts0 w (List.mem_cons_of_mem _ h)
  have hown : s.vm.findClass RL = some m.cls := findClass_of_methodNamed B.named
  have hlocks := B.notSynchronized
  have hTab := vx_table (x := objectInit) B (hts0 _ List.mem_cons_self)
  subst hsz
  have hD := hD0.self (sz := s.heap.size)
  generalize hAe : va_A [(h0, .inr (11, [v0, v1, v2, v3, .ref tt, .int 0, v6, v7])), (tt, .inl (cT, 24, .inl f)), (ou, .inl (cO, 1, .inr (.inl g)))] s.heap.size = A at hD ⊢
  have hA : ∀ q : Nat, s.heap.size ≤ q → A q := fun q h => by rw [← hAe]; exact Or.inr h
  have hS : va_S A s.heap s.heap [] := va_S.rf
  have hP : va_P (dC, dI) vwCl [(h0, .inr (11, [v0, v1, v2, v3, .ref tt, .int 0, v6, v7])), (tt, .inl (cT, 24, .inl f)), (ou, .inl (cO, 1, .inr (.inl g)))] s.heap := hP
  have hl := lv_entry ([.ref h0, .int p0, .ref ou]) (n := 4) (Nat.le_of_ble_eq_true rfl)
  rw [lg_entry_eq]
  generalize (lg_sl ([.ref h0, .int p0, .ref ou]) ++ List.replicate (4 - (lg_sl ([.ref h0, .int p0, .ref ou])).length) Slot.unset).toArray = ls at hl ⊢
  have hl : lv_has ls 4 [(0, .ref h0), (1, .int p0), (2, .ref ou)] := hl
  skip
  refine lv_aload_n hx hb dL_type_0 rfl (lv_at hl 2 rfl) ?_
  refine lv_iconst (v := 0) hx hb dL_type_1 (by decide) ?_
  refine lv_aload_n hx hb dL_type_2 rfl (lv_at hl 0 rfl) ?_
  refine lv_iload_n hx hb dL_type_3 rfl (lv_at hl 1 rfl) ?_
  have hPc := hP.sub (ws' := [(h0, .inr (11, [v0, v1, v2, v3, .ref tt, .int 0, v6, v7])), (tt, .inl (cT, 24, .inl f))]) [0, 1] rfl
  have hDc := hD.sub (ws' := [(h0, .inr (11, [v0, v1, v2, v3, .ref tt, .int 0, v6, v7])), (tt, .inl (cT, 24, .inl f))]) [0, 1] (by decide) rfl
  have hKc := hK.sub (tys' := [(cT, .int)]) [0] rfl
  have hFc := va_free (wc := [(h0, .inr (11, [v0, v1, v2, v3, .ref tt, .int 0, v6, v7])), (tt, .inl (cT, 24, .inl f))]) hD hS hA [0, 1] rfl
  refine va_calli (va_runV (As := [.int p0]) (rest := [.int 0, .ref ou]) ⟨hx, hb, hml, hown, hts⟩ (o_typeOk l dC dI s.heap.size h0 tt v0 v1 v2 v3 v6 v7 cT f p0 h1 h2) (cwV 1 hts (pw_V q1102 q1103 q1104 q43 q1105) rfl rfl rfl (by decide +kernel) ⟨(Nat.le_of_ble_eq_true rfl), (Nat.le_of_ble_eq_true rfl)⟩) ⟨fun a U g mk q => by obtain ⟨q0, q1, qP, qK, qD⟩ := q; exact ⟨q0, q1, qP, va_K.moved (u := U) (U := U.calling g mk a) (Vm.Alike.refl U.vm) qK, qD⟩, va_recv hKc hPc (ci := 11) (q0 := 0) rfl rfl, fun U hU hW => ⟨rfl, by rw [hU], by rw [hU]; exact hPc, va_K.moved hW.alike hKc, hDc.weaken (fun _ _ _ _ => trivial)⟩⟩ rfl rfl hl.1 rfl (lv_room (Nat.le_of_ble_eq_true rfl)) dL_type_4 ⟨(Nat.le_of_ble_eq_true rfl), (Nat.le_of_ble_eq_true rfl)⟩) hS (fun q _ h => hFc q h) hFc (fun r_231 u t H1 locs ht hvm hw hB hz1 hk1 hS => ?_)
  obtain ⟨f2_232, hP1, hK1, hD1⟩ := hB
  rw [ht] at hP1
  have hK1 := va_K.moved hvm.symm hK1
  obtain ⟨hP, hD⟩ := va_join (wr := [(ou, .inl (cO, 1, .inr (.inl g)))]) (w1 := [(h0, .inr (11, [v0, v1, v2, v3, .ref tt, .int 1, v6, v7])), (tt, .inl (cT, 24, .inl f2_232))]) hP hD [0, 1] [2] rfl rfl (by decide) (by decide) hk1 hFc hP1 hD1
  have hK := (hK.sub (tys' := [(cO, .long)]) [1] rfl).app hK1
  generalize H1 = H at hP hS ⊢
  have hP : va_P (dC, dI) vwCl [(ou, .inl (cO, 1, .inr (.inl g))), (h0, .inr (11, [v0, v1, v2, v3, .ref tt, .int 1, v6, v7])), (tt, .inl (cT, 24, .inl f2_232))] H := hP
  have hD : va_D A [(ou, .inl (cO, 1, .inr (.inl g))), (h0, .inr (11, [v0, v1, v2, v3, .ref tt, .int 1, v6, v7])), (tt, .inl (cT, 24, .inl f2_232))] := hD
  have hK : va_K (dC, dI) vwCl [(cO, .long), (cT, .int)] s := hK
  refine W.widen (k := 0) (n := 0) (Nat.le_of_ble_eq_true rfl) (Nat.le_of_ble_eq_true rfl) ?_
  have hw : r_231 = 1 := hw
  subst hw
  refine lv_i2l (v := 1) hx hb dL_type_7 (by decide) ?_
  refine va_last hx hb hK hP hD hS 0 0 rfl rfl (by unfold vp_in; decide) dL_type_8 (fun H locs hP hD hS => ?_)
  rw [show (0 : Int32).toNatClampNeg = 0 from by decide] at hP hD
  have hP : va_P (dC, dI) vwCl [(ou, .inl (cO, 1, .inr (.inl (vp_updL g 0 1)))), (h0, .inr (11, [v0, v1, v2, v3, .ref tt, .int 1, v6, v7])), (tt, .inl (cT, 24, .inl f2_232))] H := hP
  have hD : va_D A [(ou, .inl (cO, 1, .inr (.inl (vp_updL g 0 1)))), (h0, .inr (11, [v0, v1, v2, v3, .ref tt, .int 1, v6, v7])), (tt, .inl (cT, 24, .inl f2_232))] := hD
  refine lv_goto (tgt := 18) hx hb dL_type_9 (by decide) ?_
  refine lv_iconst (v := 0) hx hb dL_type_18 (by decide) ?_
  have hP9 := hP.sub (ws' := [(h0, .inr (11, [v0, v1, v2, v3, .ref tt, .int 1, v6, v7])), (tt, .inl (cT, 24, .inl f2_232)), (ou, .inl (cO, 1, .inr (.inl (vp_updL g 0 1))))]) [1, 2, 0] rfl
  have hD9 := hD.sub (ws' := [(h0, .inr (11, [v0, v1, v2, v3, .ref tt, .int 1, v6, v7])), (tt, .inl (cT, 24, .inl f2_232)), (ou, .inl (cO, 1, .inr (.inl (vp_updL g 0 1))))]) [1, 2, 0] (by decide) rfl
  have hK9 := hK.sub (tys' := [(cT, .int), (cO, .long)]) [1, 0] rfl
  refine W.widen (k := 0) (n := 0) (Nat.le_of_ble_eq_true rfl) (Nat.le_of_ble_eq_true rfl) ?_
  exact W.iret (v := 0) hx hb hr (fun t ht hW => ⟨⟨0, (), rfl, rfl, ⟨f2_232, by rw [ht]; exact hP9, va_K.moved hW.alike hK9, hD9⟩⟩, hS.F ht⟩) hS.2.2 dL_type_19
set_option maxHeartbeats 4000000 in
set_option maxRecDepth 100000 in
theorem w_typeBad (l : Launch) (hl9 : l.stackTraces = false) (dC : Nat → ClassId) (dI : Nat → Nat → Nat) (sz : Nat) (ed : Nat) (h0 : Nat) (ou : Nat) (v0 : Value) (v1 : Value) (v2 : Value) (v3 : Value) (v4 : Value) (v5 : Value) (v6 : Value) (v7 : Value) (p0 : Int32) (h1 : p0 < (-99999) ∨ ¬ p0 ≤ 99999) : Met l yL_type (pw_wh yL_type cL_type 4 (some .int) [(0, 9, 12, 21), (0, 9, 15, 13)]) ({ frames := 8, cells := 1, slots := 6, locals := 143 } : Room) (va_Pc [.ref h0, .int p0, .ref ou] (fun U => U.heap.size = sz ∧ va_P (dC, dI) vwCl [(h0, .inr (11, [v0, v1, v2, v3, v4, v5, v6, v7]))] U.heap ∧ va_K (dC, dI) vwCl [] U ∧ va_D (fun _ => True) [(h0, .inr (11, [v0, v1, v2, v3, v4, v5, v6, v7]))] ∧ pz ed (va_A [(h0, .inr (11, [v0, v1, v2, v3, v4, v5, v6, v7]))] sz) U U.heap)) (va_Qi (fun (r : Int32) (_ : Unit) => r = 1) (fun (_ : Unit) (t : State) => va_P (dC, dI) vwCl [(h0, .inr (11, [v0, v1, v2, v3, v4, v5, v6, v7]))] t.heap ∧ va_K (dC, dI) vwCl [] t ∧ va_D (va_A [(h0, .inr (11, [v0, v1, v2, v3, v4, v5, v6, v7]))] sz) [(h0, .inr (11, [v0, v1, v2, v3, v4, v5, v6, v7]))]) (va_A [(h0, .inr (11, [v0, v1, v2, v3, v4, v5, v6, v7]))] sz)) 1 6 (va_A [(h0, .inr (11, [v0, v1, v2, v3, v4, v5, v6, v7]))] sz) := by
  refine va_MetW (cc := cL_type) (maxL := 4) (ret := (some .int)) (by decide) rfl ?_
  intro p e s m args below meth c s₁ B hml hv
  obtain ⟨rfl, hsz, hP, hK, hD0, hZ⟩ := hv
  have hx := B.exec
  have hb := B.bytes
  have hr := B.returns
  have hts0 := atoms_spec (ws := (pw_wh yL_type cL_type 4 (some .int) [(0, 9, 12, 21), (0, 9, 15, 13)])) B.pre
  have hts : ∀ w ∈ pw_all, w.before _ s = true := fun w h => hts0 w (List.mem_cons_of_mem _ h)
  have hown : s.vm.findClass RL = some m.cls := findClass_of_methodNamed B.named
  have hlocks := B.notSynchronized
  have hTab := vx_table (x := objectInit) B (hts0 _ List.mem_cons_self)
  subst hsz
  have hD := hD0.self (sz := s.heap.size)
  generalize hAe : va_A [(h0, .inr (11, [v0, v1, v2, v3, v4, v5, v6, v7]))] s.heap.size = A at hD hZ ⊢
  have hA : ∀ q : Nat, s.heap.size ≤ q → A q := fun q h => by rw [← hAe]; exact Or.inr h
  have hS : va_S A s.heap s.heap [] := va_S.rf
  have hP : va_P (dC, dI) vwCl [(h0, .inr (11, [v0, v1, v2, v3, v4, v5, v6, v7]))] s.heap := hP
  have hl := lv_entry ([.ref h0, .int p0, .ref ou]) (n := 4) (Nat.le_of_ble_eq_true rfl)
  rw [lg_entry_eq]
  generalize (lg_sl ([.ref h0, .int p0, .ref ou]) ++ List.replicate (4 - (lg_sl ([.ref h0, .int p0, .ref ou])).length) Slot.unset).toArray = ls at hl ⊢
  have hl : lv_has ls 4 [(0, .ref h0), (1, .int p0), (2, .ref ou)] := hl
  skip
  refine lv_aload_n hx hb dL_type_0 rfl (lv_at hl 2 rfl) ?_
  refine lv_iconst (v := 0) hx hb dL_type_1 (by decide) ?_
  refine lv_aload_n hx hb dL_type_2 rfl (lv_at hl 0 rfl) ?_
  refine lv_iload_n hx hb dL_type_3 rfl (lv_at hl 1 rfl) ?_
  have hPc := hP.sub (ws' := [(h0, .inr (11, [v0, v1, v2, v3, v4, v5, v6, v7]))]) [0] rfl
  have hDc := hD.sub (ws' := [(h0, .inr (11, [v0, v1, v2, v3, v4, v5, v6, v7]))]) [0] (by decide) rfl
  have hKc := hK.sub (tys' := []) [] rfl
  have hFc := va_free (wc := [(h0, .inr (11, [v0, v1, v2, v3, v4, v5, v6, v7]))]) hD hS hA [0] rfl
  refine vx_calli (vx_runV (As := [.int p0]) (rest := [.int 0, .ref ou]) ⟨hx, hb, hml, hown, hts⟩ (o_typeBad l hl9 dC dI s.heap.size ed h0 v0 v1 v2 v3 v4 v5 v6 v7 p0 h1) (cwV 1 hts (pw_V q1102 q1103 q1104 q43 q1105) rfl rfl rfl (by decide +kernel) ⟨(Nat.le_of_ble_eq_true rfl), (Nat.le_of_ble_eq_true rfl)⟩) ⟨fun a U g mk q => by obtain ⟨q0, q1, qP, qK, qD, qZ⟩ := q; exact ⟨q0, q1, qP, va_K.moved (u := U) (U := U.calling g mk a) (Vm.Alike.refl U.vm) qK, qD, qZ.same rfl⟩, va_recv hKc hPc (ci := 11) (q0 := 0) rfl rfl, fun U hU hW => ⟨rfl, by rw [hU], by rw [hU]; exact hPc, va_K.moved hW.alike hKc, hDc.weaken (fun _ _ _ _ => trivial), hZ.call hS hFc hU hW⟩⟩ rfl rfl hl.1 rfl (lv_room (Nat.le_of_ble_eq_true rfl)) dL_type_4 ⟨(Nat.le_of_ble_eq_true rfl), (Nat.le_of_ble_eq_true rfl)⟩) hS (fun q _ h => hFc q h) hFc (fun q _ h => hFc q h) (fun E ce q9 u t H1 locs ht hvm hw hB hz1 hk1 hS hce hcv hcl => ?_) (fun r_233 u t H1 locs ht hvm hw hB hz1 hk1 hS => hw.elim)
  obtain ⟨rfl, hP1, hK1, hD1⟩ := hB
  rw [ht] at hP1
  have hK1 := va_K.moved hvm.symm hK1
  obtain ⟨hP, hD⟩ := va_join (wr := []) (w1 := [(h0, .inr (11, [v0, v1, v2, v3, v4, v5, v6, v7]))]) hP hD [0] [] rfl rfl (by decide) (by decide) hk1 hFc hP1 hD1
  have hK := (hK.sub (tys' := []) [] rfl).app hK1
  generalize H1 = H at hP hS hce ⊢
  have hP : va_P (dC, dI) vwCl [(h0, .inr (11, [v0, v1, v2, v3, v4, v5, v6, v7]))] H := hP
  have hD : va_D A [(h0, .inr (11, [v0, v1, v2, v3, v4, v5, v6, v7]))] := hD
  have hK : va_K (dC, dI) vwCl [] s := hK
  refine vx_catch (own := RL) (name := "java/lang/IllegalArgumentException") (E := "java/lang/IllegalArgumentException") hown [] ⟨0, 9, 12, 21⟩ [⟨0, 9, 15, 13⟩] (by rw [hTab]; rfl) (fun z hz => absurd hz List.not_mem_nil) (by decide) (by decide) (hts _ q503) (hZ.cast (by decide)) hce hcv hcl ?_
  refine lv_astore_n (lv' := [(3, .ref q9), (0, .ref h0), (1, .int p0), (2, .ref ou)]) hx hb dL_type_12 rfl hl (by decide) rfl (fun ls hl => ?_)
  refine lv_iconst (v := 1) hx hb dL_type_13 (by decide) ?_
  have hP9 := hP.sub (ws' := [(h0, .inr (11, [v0, v1, v2, v3, v4, v5, v6, v7]))]) [0] rfl
  have hD9 := hD.sub (ws' := [(h0, .inr (11, [v0, v1, v2, v3, v4, v5, v6, v7]))]) [0] (by decide) rfl
  have hK9 := hK.sub (tys' := []) [] rfl
  refine W.widen (k := 1) (n := 6) (Nat.le_of_ble_eq_true rfl) (Nat.le_of_ble_eq_true rfl) ?_
  exact W.iret (v := 1) hx hb hr (fun t ht hW => ⟨⟨1, (), rfl, rfl, ⟨by rw [ht]; exact hP9, va_K.moved hW.alike hK9, hD9⟩⟩, hS.F ht⟩) hS.2.2 dL_type_14
set_option maxHeartbeats 4000000 in
set_option maxRecDepth 100000 in
theorem w_spectrumBad (l : Launch) (hl9 : l.stackTraces = false) (dC : Nat → ClassId) (dI : Nat → Nat → Nat) (sz : Nat) (ed : Nat) (h0 : Nat) (ou : Nat) (v0 : Value) (v1 : Value) (v2 : Value) (v3 : Value) (v4 : Value) (v6 : Value) (v7 : Value) (p0 : Int32) (h1 : p0 < 4 ∨ ¬ p0 ≤ 64) : Met l yL_getSpectrum (pw_wh yL_getSpectrum cL_getSpectrum 4 (some .int) [(0, 9, 12, 21), (0, 9, 15, 38)]) ({ frames := 9, cells := 1, slots := 6, locals := 165 } : Room) (va_Pc [.ref h0, .int p0, .ref ou] (fun U => U.heap.size = sz ∧ va_P (dC, dI) vwCl [(h0, .inr (11, [v0, v1, v2, v3, v4, .int 0, v6, v7]))] U.heap ∧ va_K (dC, dI) vwCl [] U ∧ va_D (fun _ => True) [(h0, .inr (11, [v0, v1, v2, v3, v4, .int 0, v6, v7]))] ∧ pz ed (va_A [(h0, .inr (11, [v0, v1, v2, v3, v4, .int 0, v6, v7]))] sz) U U.heap)) (va_Qi (fun (r : Int32) (_ : Unit) => r = 1) (fun (_ : Unit) (t : State) => va_P (dC, dI) vwCl [(h0, .inr (11, [v0, v1, v2, v3, v4, .int 0, v6, v7]))] t.heap ∧ va_K (dC, dI) vwCl [] t ∧ va_D (va_A [(h0, .inr (11, [v0, v1, v2, v3, v4, .int 0, v6, v7]))] sz) [(h0, .inr (11, [v0, v1, v2, v3, v4, .int 0, v6, v7]))]) (va_A [(h0, .inr (11, [v0, v1, v2, v3, v4, .int 0, v6, v7]))] sz)) 1 6 (va_A [(h0, .inr (11, [v0, v1, v2, v3, v4, .int 0, v6, v7]))] sz) := by
  refine va_MetW (cc := cL_getSpectrum) (maxL := 4) (ret := (some .int)) (by decide) rfl ?_
  intro p e s m args below meth c s₁ B hml hv
  obtain ⟨rfl, hsz, hP, hK, hD0, hZ⟩ := hv
  have hx := B.exec
  have hb := B.bytes
  have hr := B.returns
  have hts0 := atoms_spec (ws := (pw_wh yL_getSpectrum cL_getSpectrum 4 (some .int) [(0, 9, 12, 21), (0, 9, 15, 38)])) B.pre
  have hts : ∀ w ∈ pw_all, w.before _ s = true := fun w h => hts0 w (List.mem_cons_of_mem _ h)
  have hown : s.vm.findClass RL = some m.cls := findClass_of_methodNamed B.named
  have hlocks := B.notSynchronized
  have hTab := vx_table (x := objectInit) B (hts0 _ List.mem_cons_self)
  subst hsz
  have hD := hD0.self (sz := s.heap.size)
  generalize hAe : va_A [(h0, .inr (11, [v0, v1, v2, v3, v4, .int 0, v6, v7]))] s.heap.size = A at hD hZ ⊢
  have hA : ∀ q : Nat, s.heap.size ≤ q → A q := fun q h => by rw [← hAe]; exact Or.inr h
  have hS : va_S A s.heap s.heap [] := va_S.rf
  have hP : va_P (dC, dI) vwCl [(h0, .inr (11, [v0, v1, v2, v3, v4, .int 0, v6, v7]))] s.heap := hP
  have hl := lv_entry ([.ref h0, .int p0, .ref ou]) (n := 4) (Nat.le_of_ble_eq_true rfl)
  rw [lg_entry_eq]
  generalize (lg_sl ([.ref h0, .int p0, .ref ou]) ++ List.replicate (4 - (lg_sl ([.ref h0, .int p0, .ref ou])).length) Slot.unset).toArray = ls at hl ⊢
  have hl : lv_has ls 4 [(0, .ref h0), (1, .int p0), (2, .ref ou)] := hl
  skip
  refine lv_aload_n hx hb dL_getSpectrum_0 rfl (lv_at hl 2 rfl) ?_
  refine lv_iconst (v := 0) hx hb dL_getSpectrum_1 (by decide) ?_
  refine lv_aload_n hx hb dL_getSpectrum_2 rfl (lv_at hl 0 rfl) ?_
  refine lv_iload_n hx hb dL_getSpectrum_3 rfl (lv_at hl 1 rfl) ?_
  have hPc := hP.sub (ws' := [(h0, .inr (11, [v0, v1, v2, v3, v4, .int 0, v6, v7]))]) [0] rfl
  have hDc := hD.sub (ws' := [(h0, .inr (11, [v0, v1, v2, v3, v4, .int 0, v6, v7]))]) [0] (by decide) rfl
  have hKc := hK.sub (tys' := []) [] rfl
  have hFc := va_free (wc := [(h0, .inr (11, [v0, v1, v2, v3, v4, .int 0, v6, v7]))]) hD hS hA [0] rfl
  refine vx_calli (vx_runV (As := [.int p0]) (rest := [.int 0, .ref ou]) ⟨hx, hb, hml, hown, hts⟩ (o_spectrumBad l hl9 dC dI s.heap.size ed h0 v0 v1 v2 v3 v4 v6 v7 p0 h1) (cwV 1 hts (pw_V q1139 q1140 q1141 q43 q1142) rfl rfl rfl (by decide +kernel) ⟨(Nat.le_of_ble_eq_true rfl), (Nat.le_of_ble_eq_true rfl)⟩) ⟨fun a U g mk q => by obtain ⟨q0, q1, qP, qK, qD, qZ⟩ := q; exact ⟨q0, q1, qP, va_K.moved (u := U) (U := U.calling g mk a) (Vm.Alike.refl U.vm) qK, qD, qZ.same rfl⟩, va_recv hKc hPc (ci := 11) (q0 := 0) rfl rfl, fun U hU hW => ⟨rfl, by rw [hU], by rw [hU]; exact hPc, va_K.moved hW.alike hKc, hDc.weaken (fun _ _ _ _ => trivial), hZ.call hS hFc hU hW⟩⟩ rfl rfl hl.1 rfl (lv_room (Nat.le_of_ble_eq_true rfl)) dL_getSpectrum_4 ⟨(Nat.le_of_ble_eq_true rfl), (Nat.le_of_ble_eq_true rfl)⟩) hS (fun q _ h => hFc q h) hFc (fun q _ h => hFc q h) (fun E ce q9 u t H1 locs ht hvm hw hB hz1 hk1 hS hce hcv hcl => ?_) (fun r_234 u t H1 locs ht hvm hw hB hz1 hk1 hS => hw.elim)
  obtain ⟨rfl, hP1, hK1, hD1⟩ := hB
  rw [ht] at hP1
  have hK1 := va_K.moved hvm.symm hK1
  obtain ⟨hP, hD⟩ := va_join (wr := []) (w1 := [(h0, .inr (11, [v0, v1, v2, v3, v4, .int 0, v6, v7]))]) hP hD [0] [] rfl rfl (by decide) (by decide) hk1 hFc hP1 hD1
  have hK := (hK.sub (tys' := []) [] rfl).app hK1
  generalize H1 = H at hP hS hce ⊢
  have hP : va_P (dC, dI) vwCl [(h0, .inr (11, [v0, v1, v2, v3, v4, .int 0, v6, v7]))] H := hP
  have hD : va_D A [(h0, .inr (11, [v0, v1, v2, v3, v4, .int 0, v6, v7]))] := hD
  have hK : va_K (dC, dI) vwCl [] s := hK
  refine vx_catch (own := RL) (name := "java/lang/IllegalArgumentException") (E := "java/lang/IllegalArgumentException") hown [] ⟨0, 9, 12, 21⟩ [⟨0, 9, 15, 38⟩] (by rw [hTab]; rfl) (fun z hz => absurd hz List.not_mem_nil) (by decide) (by decide) (hts _ q503) (hZ.cast (by decide)) hce hcv hcl ?_
  refine lv_astore_n (lv' := [(3, .ref q9), (0, .ref h0), (1, .int p0), (2, .ref ou)]) hx hb dL_getSpectrum_12 rfl hl (by decide) rfl (fun ls hl => ?_)
  refine lv_iconst (v := 1) hx hb dL_getSpectrum_13 (by decide) ?_
  have hP9 := hP.sub (ws' := [(h0, .inr (11, [v0, v1, v2, v3, v4, .int 0, v6, v7]))]) [0] rfl
  have hD9 := hD.sub (ws' := [(h0, .inr (11, [v0, v1, v2, v3, v4, .int 0, v6, v7]))]) [0] (by decide) rfl
  have hK9 := hK.sub (tys' := []) [] rfl
  refine W.widen (k := 1) (n := 6) (Nat.le_of_ble_eq_true rfl) (Nat.le_of_ble_eq_true rfl) ?_
  exact W.iret (v := 1) hx hb hr (fun t ht hW => ⟨⟨1, (), rfl, rfl, ⟨by rw [ht]; exact hP9, va_K.moved hW.alike hK9, hD9⟩⟩, hS.F ht⟩) hS.2.2 dL_getSpectrum_14
set_option maxHeartbeats 4000000 in
set_option maxRecDepth 100000 in
theorem w_spectrumOk (l : Launch) (hl9 : l.stackTraces = false) (dC : Nat → ClassId) (dI : Nat → Nat → Nat) (sz : Nat) (ed : Nat) (h0 : Nat) (ou : Nat) (v0 : Value) (v1 : Value) (v2 : Value) (v3 : Value) (v4 : Value) (v6 : Value) (v7 : Value) (p0 : Int32) (h1 : ¬ p0 < 4) (h2 : p0 ≤ 64) : Met l yL_getSpectrum (pw_wh yL_getSpectrum cL_getSpectrum 4 (some .int) [(0, 9, 12, 21), (0, 9, 15, 38)]) ({ frames := 8, cells := 1, slots := 6, locals := 143 } : Room) (va_Pc [.ref h0, .int p0, .ref ou] (fun U => U.heap.size = sz ∧ va_P (dC, dI) vwCl [(h0, .inr (11, [v0, v1, v2, v3, v4, .int 0, v6, v7]))] U.heap ∧ va_K (dC, dI) vwCl [] U ∧ va_D (fun _ => True) [(h0, .inr (11, [v0, v1, v2, v3, v4, .int 0, v6, v7]))] ∧ pz ed (va_A [(h0, .inr (11, [v0, v1, v2, v3, v4, .int 0, v6, v7]))] sz) U U.heap)) (va_Qi (fun (r : Int32) (_ : Unit) => r = 2) (fun (_ : Unit) (t : State) => va_P (dC, dI) vwCl [(h0, .inr (11, [v0, v1, v2, v3, v4, .int 0, v6, v7]))] t.heap ∧ va_K (dC, dI) vwCl [] t ∧ va_D (va_A [(h0, .inr (11, [v0, v1, v2, v3, v4, .int 0, v6, v7]))] sz) [(h0, .inr (11, [v0, v1, v2, v3, v4, .int 0, v6, v7]))]) (va_A [(h0, .inr (11, [v0, v1, v2, v3, v4, .int 0, v6, v7]))] sz)) 1 6 (va_A [(h0, .inr (11, [v0, v1, v2, v3, v4, .int 0, v6, v7]))] sz) := by
  refine va_MetW (cc := cL_getSpectrum) (maxL := 4) (ret := (some .int)) (by decide) rfl ?_
  intro p e s m args below meth c s₁ B hml hv
  obtain ⟨rfl, hsz, hP, hK, hD0, hZ⟩ := hv
  have hx := B.exec
  have hb := B.bytes
  have hr := B.returns
  have hts0 := atoms_spec (ws := (pw_wh yL_getSpectrum cL_getSpectrum 4 (some .int) [(0, 9, 12, 21), (0, 9, 15, 38)])) B.pre
  have hts : ∀ w ∈ pw_all, w.before _ s = true := fun w h => hts0 w (List.mem_cons_of_mem _ h)
  have hown : s.vm.findClass RL = some m.cls := findClass_of_methodNamed B.named
  have hlocks := B.notSynchronized
  have hTab := vx_table (x := objectInit) B (hts0 _ List.mem_cons_self)
  subst hsz
  have hD := hD0.self (sz := s.heap.size)
  generalize hAe : va_A [(h0, .inr (11, [v0, v1, v2, v3, v4, .int 0, v6, v7]))] s.heap.size = A at hD hZ ⊢
  have hA : ∀ q : Nat, s.heap.size ≤ q → A q := fun q h => by rw [← hAe]; exact Or.inr h
  have hS : va_S A s.heap s.heap [] := va_S.rf
  have hP : va_P (dC, dI) vwCl [(h0, .inr (11, [v0, v1, v2, v3, v4, .int 0, v6, v7]))] s.heap := hP
  have hl := lv_entry ([.ref h0, .int p0, .ref ou]) (n := 4) (Nat.le_of_ble_eq_true rfl)
  rw [lg_entry_eq]
  generalize (lg_sl ([.ref h0, .int p0, .ref ou]) ++ List.replicate (4 - (lg_sl ([.ref h0, .int p0, .ref ou])).length) Slot.unset).toArray = ls at hl ⊢
  have hl : lv_has ls 4 [(0, .ref h0), (1, .int p0), (2, .ref ou)] := hl
  skip
  refine lv_aload_n hx hb dL_getSpectrum_0 rfl (lv_at hl 2 rfl) ?_
  refine lv_iconst (v := 0) hx hb dL_getSpectrum_1 (by decide) ?_
  refine lv_aload_n hx hb dL_getSpectrum_2 rfl (lv_at hl 0 rfl) ?_
  refine lv_iload_n hx hb dL_getSpectrum_3 rfl (lv_at hl 1 rfl) ?_
  have hPc := hP.sub (ws' := [(h0, .inr (11, [v0, v1, v2, v3, v4, .int 0, v6, v7]))]) [0] rfl
  have hDc := hD.sub (ws' := [(h0, .inr (11, [v0, v1, v2, v3, v4, .int 0, v6, v7]))]) [0] (by decide) rfl
  have hKc := hK.sub (tys' := []) [] rfl
  have hFc := va_free (wc := [(h0, .inr (11, [v0, v1, v2, v3, v4, .int 0, v6, v7]))]) hD hS hA [0] rfl
  refine vx_calli (vx_runV (As := [.int p0]) (rest := [.int 0, .ref ou]) ⟨hx, hb, hml, hown, hts⟩ (o_spectrumOk l hl9 dC dI s.heap.size ed h0 v0 v1 v2 v3 v4 v6 v7 p0 h1 h2) (cwV 1 hts (pw_V q1139 q1140 q1141 q43 q1142) rfl rfl rfl (by decide +kernel) ⟨(Nat.le_of_ble_eq_true rfl), (Nat.le_of_ble_eq_true rfl)⟩) ⟨fun a U g mk q => by obtain ⟨q0, q1, qP, qK, qD, qZ⟩ := q; exact ⟨q0, q1, qP, va_K.moved (u := U) (U := U.calling g mk a) (Vm.Alike.refl U.vm) qK, qD, qZ.same rfl⟩, va_recv hKc hPc (ci := 11) (q0 := 0) rfl rfl, fun U hU hW => ⟨rfl, by rw [hU], by rw [hU]; exact hPc, va_K.moved hW.alike hKc, hDc.weaken (fun _ _ _ _ => trivial), hZ.call hS hFc hU hW⟩⟩ rfl rfl hl.1 rfl (lv_room (Nat.le_of_ble_eq_true rfl)) dL_getSpectrum_4 ⟨(Nat.le_of_ble_eq_true rfl), (Nat.le_of_ble_eq_true rfl)⟩) hS (fun q _ h => hFc q h) hFc (fun q _ h => hFc q h) (fun E ce q9 u t H1 locs ht hvm hw hB hz1 hk1 hS hce hcv hcl => ?_) (fun r_235 u t H1 locs ht hvm hw hB hz1 hk1 hS => hw.elim)
  obtain ⟨rfl, hP1, hK1, hD1⟩ := hB
  rw [ht] at hP1
  have hK1 := va_K.moved hvm.symm hK1
  obtain ⟨hP, hD⟩ := va_join (wr := []) (w1 := [(h0, .inr (11, [v0, v1, v2, v3, v4, .int 0, v6, v7]))]) hP hD [0] [] rfl rfl (by decide) (by decide) hk1 hFc hP1 hD1
  have hK := (hK.sub (tys' := []) [] rfl).app hK1
  generalize H1 = H at hP hS hce ⊢
  have hP : va_P (dC, dI) vwCl [(h0, .inr (11, [v0, v1, v2, v3, v4, .int 0, v6, v7]))] H := hP
  have hD : va_D A [(h0, .inr (11, [v0, v1, v2, v3, v4, .int 0, v6, v7]))] := hD
  have hK : va_K (dC, dI) vwCl [] s := hK
  refine vx_catch (own := RL) (name := "java/lang/UnsupportedOperationException") (E := "java/lang/UnsupportedOperationException") hown [⟨0, 9, 12, 21⟩] ⟨0, 9, 15, 38⟩ [] (by rw [hTab]; rfl) (fun z hz => by rw [List.mem_singleton.mp hz]; exact Or.inr ⟨by decide, "java/lang/IllegalArgumentException", (hts _ q503), hZ.nc (by decide)⟩) (by decide) (by decide) (hts _ q618) (hZ.cast (by decide)) hce hcv hcl ?_
  refine lv_astore_n (lv' := [(3, .ref q9), (0, .ref h0), (1, .int p0), (2, .ref ou)]) hx hb dL_getSpectrum_15 rfl hl (by decide) rfl (fun ls hl => ?_)
  refine lv_iconst (v := 2) hx hb dL_getSpectrum_16 (by decide) ?_
  have hP9 := hP.sub (ws' := [(h0, .inr (11, [v0, v1, v2, v3, v4, .int 0, v6, v7]))]) [0] rfl
  have hD9 := hD.sub (ws' := [(h0, .inr (11, [v0, v1, v2, v3, v4, .int 0, v6, v7]))]) [0] (by decide) rfl
  have hK9 := hK.sub (tys' := []) [] rfl
  refine W.widen (k := 1) (n := 6) (Nat.le_of_ble_eq_true rfl) (Nat.le_of_ble_eq_true rfl) ?_
  exact W.iret (v := 2) hx hb hr (fun t ht hW => ⟨⟨2, (), rfl, rfl, ⟨by rw [ht]; exact hP9, va_K.moved hW.alike hK9, hD9⟩⟩, hS.F ht⟩) hS.2.2 dL_getSpectrum_17
