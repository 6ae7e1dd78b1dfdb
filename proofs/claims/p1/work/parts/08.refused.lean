set_option maxHeartbeats 4000000 in
set_option maxRecDepth 100000 in
theorem x_addMass (l : Launch) (hl9 : l.stackTraces = false) (dC : Nat → ClassId) (dI : Nat → Nat → Nat) (sz : Nat) (ed : Nat) (h0 : Nat) (a : Nat) (v1 : Value) (v2 : Value) (v3 : Value) (v4 : Value) (v5 : Value) (v6 : Value) (v7 : Value) (w0 : Value) (w1 : Value) (p0 : Int32) (p1 : Int32) (p2 : Int32) (p3 : Int32) : vx_Met l yX6_addMass (pw_ws yX6_addMass cX6_addMass 6 (some .int)) ({ frames := 7, cells := 1, slots := 6, locals := 121 } : Room) (va_Pc [.ref h0, .int p0, .int p1, .int p2, .int p3] (fun U => U.heap.size = sz ∧ va_P (dC, dI) vwCl [(h0, .inr (11, [.ref a, v1, v2, v3, v4, v5, v6, v7])), (a, .inr (4, [w0, w1, .int 0]))] U.heap ∧ va_K (dC, dI) vwCl [] U ∧ va_D (fun _ => True) [(h0, .inr (11, [.ref a, v1, v2, v3, v4, v5, v6, v7])), (a, .inr (4, [w0, w1, .int 0]))] ∧ pz ed (va_A [(h0, .inr (11, [.ref a, v1, v2, v3, v4, v5, v6, v7])), (a, .inr (4, [w0, w1, .int 0]))] sz) U U.heap)) (va_Qi (fun (_ : Int32) (_ : Unit) => False) (fun (_ : Unit) (_ : State) => True) (va_A [(h0, .inr (11, [.ref a, v1, v2, v3, v4, v5, v6, v7])), (a, .inr (4, [w0, w1, .int 0]))] sz)) (vx_X px_T (fun (E : String) (_ : Unit) (t : State) => E = "java/lang/IndexOutOfBoundsException" ∧ va_P (dC, dI) vwCl [(h0, .inr (11, [.ref a, v1, v2, v3, v4, v5, v6, v7])), (a, .inr (4, [w0, w1, .int 0]))] t.heap ∧ va_K (dC, dI) vwCl [] t ∧ va_D (va_A [(h0, .inr (11, [.ref a, v1, v2, v3, v4, v5, v6, v7])), (a, .inr (4, [w0, w1, .int 0]))] sz) [(h0, .inr (11, [.ref a, v1, v2, v3, v4, v5, v6, v7])), (a, .inr (4, [w0, w1, .int 0]))]) (va_A [(h0, .inr (11, [.ref a, v1, v2, v3, v4, v5, v6, v7])), (a, .inr (4, [w0, w1, .int 0]))] sz)) 1 6 (va_A [(h0, .inr (11, [.ref a, v1, v2, v3, v4, v5, v6, v7])), (a, .inr (4, [w0, w1, .int 0]))] sz) := by
  refine vx_ofW (cc := cX6_addMass) (maxL := 6) (ret := (some .int)) (by decide) rfl ?_
  intro p e s m args below meth c s₁ B hml htab hv
  obtain ⟨rfl, hsz, hP, hK, hD0, hZ⟩ := hv
  have hx := B.exec
  have hb := B.bytes
  have hr := B.returns
  have hts0 := atoms_spec (ws := (pw_ws yX6_addMass cX6_addMass 6 (some .int))) B.pre
  have hts : ∀ w ∈ pw_all, w.before _ s = true := fun w h => hts0 w (List.mem_cons_of_mem _ h)
  have hown : s.vm.findClass RX6 = some m.cls := findClass_of_methodNamed B.named
  have hlocks := B.notSynchronized
  subst hsz
  have hD := hD0.self (sz := s.heap.size)
  generalize hAe : va_A [(h0, .inr (11, [.ref a, v1, v2, v3, v4, v5, v6, v7])), (a, .inr (4, [w0, w1, .int 0]))] s.heap.size = A at hD hZ ⊢
  have hA : ∀ q : Nat, s.heap.size ≤ q → A q := fun q h => by rw [← hAe]; exact Or.inr h
  have hS : va_S A s.heap s.heap [] := va_S.rf
  have hP : va_P (dC, dI) vwCl [(h0, .inr (11, [.ref a, v1, v2, v3, v4, v5, v6, v7])), (a, .inr (4, [w0, w1, .int 0]))] s.heap := hP
  have hl := lv_entry ([.ref h0, .int p0, .int p1, .int p2, .int p3]) (n := 6) (Nat.le_of_ble_eq_true rfl)
  rw [lg_entry_eq]
  generalize (lg_sl ([.ref h0, .int p0, .int p1, .int p2, .int p3]) ++ List.replicate (6 - (lg_sl ([.ref h0, .int p0, .int p1, .int p2, .int p3])).length) Slot.unset).toArray = ls at hl ⊢
  have hl : lv_has ls 6 [(0, .ref h0), (1, .int p0), (2, .int p1), (3, .int p2), (4, .int p3)] := hl
  skip
  refine lv_aload_n hx hb dX6_addMass_0 rfl (lv_at hl 0 rfl) ?_
  refine lv_iload_n hx hb dX6_addMass_1 rfl (lv_at hl 1 rfl) ?_
  have hPc := hP.sub (ws' := [(h0, .inr (11, [.ref a, v1, v2, v3, v4, v5, v6, v7])), (a, .inr (4, [w0, w1, .int 0]))]) [0, 1] rfl
  have hDc := hD.sub (ws' := [(h0, .inr (11, [.ref a, v1, v2, v3, v4, v5, v6, v7])), (a, .inr (4, [w0, w1, .int 0]))]) [0, 1] (by decide) rfl
  have hKc := hK.sub (tys' := []) [] rfl
  have hFc := va_free (wc := [(h0, .inr (11, [.ref a, v1, v2, v3, v4, v5, v6, v7])), (a, .inr (4, [w0, w1, .int 0]))]) hD hS hA [0, 1] rfl
  refine vx_callr (vx_runV (As := [.int p0]) (rest := []) ⟨hx, hb, hml, hown, hts⟩ (m_structureAt l hl9 dC dI s.heap.size ed h0 a v1 v2 v3 v4 v5 v6 v7 w0 w1 p0) (cwV 1 hts (pw_V q508 q510 q7 q43 q511) rfl rfl rfl (by decide +kernel) ⟨(Nat.le_of_ble_eq_true rfl), (Nat.le_of_ble_eq_true rfl)⟩) ⟨fun a U g mk q => by obtain ⟨q0, q1, qP, qK, qD, qZ⟩ := q; exact ⟨q0, q1, qP, va_K.moved (u := U) (U := U.calling g mk a) (Vm.Alike.refl U.vm) qK, qD, qZ.same rfl⟩, va_recv hKc hPc (ci := 11) (q0 := 0) rfl rfl, fun U hU hW => ⟨rfl, by rw [hU], by rw [hU]; exact hPc, va_K.moved hW.alike hKc, hDc.weaken (fun _ _ _ _ => trivial), hZ.call hS hFc hU hW⟩⟩ rfl rfl hl.1 rfl (lv_room (Nat.le_of_ble_eq_true rfl)) dX6_addMass_2 ⟨(Nat.le_of_ble_eq_true rfl), (Nat.le_of_ble_eq_true rfl)⟩) hS (fun q _ h => hFc q h) hFc (fun q _ h => hFc q h) (fun E ce q9 u t H1 locs ht hvm hw hB hz1 hk1 hS hce hcv hcl => ?_) (fun u r_100 t H1 locs ht hvm hw hB hz1 hk1 hS => hw.elim)
  obtain ⟨rfl, hP1, hK1, hD1⟩ := hB
  rw [ht] at hP1
  have hK1 := va_K.moved hvm.symm hK1
  obtain ⟨hP, hD⟩ := va_join (wr := []) (w1 := [(h0, .inr (11, [.ref a, v1, v2, v3, v4, v5, v6, v7])), (a, .inr (4, [w0, w1, .int 0]))]) hP hD [0, 1] [] rfl rfl (by decide) (by decide) hk1 hFc hP1 hD1
  have hK := (hK.sub (tys' := []) [] rfl).app hK1
  generalize H1 = H at hP hS hce ⊢
  have hP : va_P (dC, dI) vwCl [(h0, .inr (11, [.ref a, v1, v2, v3, v4, v5, v6, v7])), (a, .inr (4, [w0, w1, .int 0]))] H := hP
  have hD : va_D A [(h0, .inr (11, [.ref a, v1, v2, v3, v4, v5, v6, v7])), (a, .inr (4, [w0, w1, .int 0]))] := hD
  have hK : va_K (dC, dI) vwCl [] s := hK
  have hP9 := hP.sub (ws' := [(h0, .inr (11, [.ref a, v1, v2, v3, v4, v5, v6, v7])), (a, .inr (4, [w0, w1, .int 0]))]) [0, 1] rfl
  have hD9 := hD.sub (ws' := [(h0, .inr (11, [.ref a, v1, v2, v3, v4, v5, v6, v7])), (a, .inr (4, [w0, w1, .int 0]))]) [0, 1] (by decide) rfl
  have hK9 := hK.sub (tys' := []) [] rfl
  exact vx_out (fun x hx => (htab x hx).elim) hlocks hce hcv hcl (fun t ht ha => ⟨(), trivial, ⟨rfl, by rw [ht]; exact hP9, va_K.moved ha hK9, hD9⟩, hS.F ht⟩) hS.2.2 (Nat.le_of_ble_eq_true rfl) (Nat.le_of_ble_eq_true rfl)
set_option maxHeartbeats 4000000 in
set_option maxRecDepth 100000 in
theorem x_crack (l : Launch) (hl9 : l.stackTraces = false) (dC : Nat → ClassId) (dI : Nat → Nat → Nat) (sz : Nat) (ed : Nat) (h0 : Nat) (a : Nat) (v1 : Value) (v2 : Value) (v3 : Value) (v4 : Value) (v5 : Value) (v6 : Value) (v7 : Value) (w0 : Value) (w1 : Value) (p0 : Int32) (p1 : Int32) : vx_Met l yX6_crack (pw_ws yX6_crack cX6_crack 4 (some .int)) ({ frames := 7, cells := 1, slots := 6, locals := 121 } : Room) (va_Pc [.ref h0, .int p0, .int p1] (fun U => U.heap.size = sz ∧ va_P (dC, dI) vwCl [(h0, .inr (11, [.ref a, v1, v2, v3, v4, v5, v6, v7])), (a, .inr (4, [w0, w1, .int 0]))] U.heap ∧ va_K (dC, dI) vwCl [] U ∧ va_D (fun _ => True) [(h0, .inr (11, [.ref a, v1, v2, v3, v4, v5, v6, v7])), (a, .inr (4, [w0, w1, .int 0]))] ∧ pz ed (va_A [(h0, .inr (11, [.ref a, v1, v2, v3, v4, v5, v6, v7])), (a, .inr (4, [w0, w1, .int 0]))] sz) U U.heap)) (va_Qi (fun (_ : Int32) (_ : Unit) => False) (fun (_ : Unit) (_ : State) => True) (va_A [(h0, .inr (11, [.ref a, v1, v2, v3, v4, v5, v6, v7])), (a, .inr (4, [w0, w1, .int 0]))] sz)) (vx_X px_T (fun (E : String) (_ : Unit) (t : State) => E = "java/lang/IndexOutOfBoundsException" ∧ va_P (dC, dI) vwCl [(h0, .inr (11, [.ref a, v1, v2, v3, v4, v5, v6, v7])), (a, .inr (4, [w0, w1, .int 0]))] t.heap ∧ va_K (dC, dI) vwCl [] t ∧ va_D (va_A [(h0, .inr (11, [.ref a, v1, v2, v3, v4, v5, v6, v7])), (a, .inr (4, [w0, w1, .int 0]))] sz) [(h0, .inr (11, [.ref a, v1, v2, v3, v4, v5, v6, v7])), (a, .inr (4, [w0, w1, .int 0]))]) (va_A [(h0, .inr (11, [.ref a, v1, v2, v3, v4, v5, v6, v7])), (a, .inr (4, [w0, w1, .int 0]))] sz)) 1 6 (va_A [(h0, .inr (11, [.ref a, v1, v2, v3, v4, v5, v6, v7])), (a, .inr (4, [w0, w1, .int 0]))] sz) := by
  refine vx_ofW (cc := cX6_crack) (maxL := 4) (ret := (some .int)) (by decide) rfl ?_
  intro p e s m args below meth c s₁ B hml htab hv
  obtain ⟨rfl, hsz, hP, hK, hD0, hZ⟩ := hv
  have hx := B.exec
  have hb := B.bytes
  have hr := B.returns
  have hts0 := atoms_spec (ws := (pw_ws yX6_crack cX6_crack 4 (some .int))) B.pre
  have hts : ∀ w ∈ pw_all, w.before _ s = true := fun w h => hts0 w (List.mem_cons_of_mem _ h)
  have hown : s.vm.findClass RX6 = some m.cls := findClass_of_methodNamed B.named
  have hlocks := B.notSynchronized
  subst hsz
  have hD := hD0.self (sz := s.heap.size)
  generalize hAe : va_A [(h0, .inr (11, [.ref a, v1, v2, v3, v4, v5, v6, v7])), (a, .inr (4, [w0, w1, .int 0]))] s.heap.size = A at hD hZ ⊢
  have hA : ∀ q : Nat, s.heap.size ≤ q → A q := fun q h => by rw [← hAe]; exact Or.inr h
  have hS : va_S A s.heap s.heap [] := va_S.rf
  have hP : va_P (dC, dI) vwCl [(h0, .inr (11, [.ref a, v1, v2, v3, v4, v5, v6, v7])), (a, .inr (4, [w0, w1, .int 0]))] s.heap := hP
  have hl := lv_entry ([.ref h0, .int p0, .int p1]) (n := 4) (Nat.le_of_ble_eq_true rfl)
  rw [lg_entry_eq]
  generalize (lg_sl ([.ref h0, .int p0, .int p1]) ++ List.replicate (4 - (lg_sl ([.ref h0, .int p0, .int p1])).length) Slot.unset).toArray = ls at hl ⊢
  have hl : lv_has ls 4 [(0, .ref h0), (1, .int p0), (2, .int p1)] := hl
  skip
  refine lv_aload_n hx hb dX6_crack_0 rfl (lv_at hl 0 rfl) ?_
  refine lv_iload_n hx hb dX6_crack_1 rfl (lv_at hl 1 rfl) ?_
  have hPc := hP.sub (ws' := [(h0, .inr (11, [.ref a, v1, v2, v3, v4, v5, v6, v7])), (a, .inr (4, [w0, w1, .int 0]))]) [0, 1] rfl
  have hDc := hD.sub (ws' := [(h0, .inr (11, [.ref a, v1, v2, v3, v4, v5, v6, v7])), (a, .inr (4, [w0, w1, .int 0]))]) [0, 1] (by decide) rfl
  have hKc := hK.sub (tys' := []) [] rfl
  have hFc := va_free (wc := [(h0, .inr (11, [.ref a, v1, v2, v3, v4, v5, v6, v7])), (a, .inr (4, [w0, w1, .int 0]))]) hD hS hA [0, 1] rfl
  refine vx_callr (vx_runV (As := [.int p0]) (rest := []) ⟨hx, hb, hml, hown, hts⟩ (m_structureAt l hl9 dC dI s.heap.size ed h0 a v1 v2 v3 v4 v5 v6 v7 w0 w1 p0) (cwV 1 hts (pw_V q508 q510 q7 q43 q511) rfl rfl rfl (by decide +kernel) ⟨(Nat.le_of_ble_eq_true rfl), (Nat.le_of_ble_eq_true rfl)⟩) ⟨fun a U g mk q => by obtain ⟨q0, q1, qP, qK, qD, qZ⟩ := q; exact ⟨q0, q1, qP, va_K.moved (u := U) (U := U.calling g mk a) (Vm.Alike.refl U.vm) qK, qD, qZ.same rfl⟩, va_recv hKc hPc (ci := 11) (q0 := 0) rfl rfl, fun U hU hW => ⟨rfl, by rw [hU], by rw [hU]; exact hPc, va_K.moved hW.alike hKc, hDc.weaken (fun _ _ _ _ => trivial), hZ.call hS hFc hU hW⟩⟩ rfl rfl hl.1 rfl (lv_room (Nat.le_of_ble_eq_true rfl)) dX6_crack_2 ⟨(Nat.le_of_ble_eq_true rfl), (Nat.le_of_ble_eq_true rfl)⟩) hS (fun q _ h => hFc q h) hFc (fun q _ h => hFc q h) (fun E ce q9 u t H1 locs ht hvm hw hB hz1 hk1 hS hce hcv hcl => ?_) (fun u r_101 t H1 locs ht hvm hw hB hz1 hk1 hS => hw.elim)
  obtain ⟨rfl, hP1, hK1, hD1⟩ := hB
  rw [ht] at hP1
  have hK1 := va_K.moved hvm.symm hK1
  obtain ⟨hP, hD⟩ := va_join (wr := []) (w1 := [(h0, .inr (11, [.ref a, v1, v2, v3, v4, v5, v6, v7])), (a, .inr (4, [w0, w1, .int 0]))]) hP hD [0, 1] [] rfl rfl (by decide) (by decide) hk1 hFc hP1 hD1
  have hK := (hK.sub (tys' := []) [] rfl).app hK1
  generalize H1 = H at hP hS hce ⊢
  have hP : va_P (dC, dI) vwCl [(h0, .inr (11, [.ref a, v1, v2, v3, v4, v5, v6, v7])), (a, .inr (4, [w0, w1, .int 0]))] H := hP
  have hD : va_D A [(h0, .inr (11, [.ref a, v1, v2, v3, v4, v5, v6, v7])), (a, .inr (4, [w0, w1, .int 0]))] := hD
  have hK : va_K (dC, dI) vwCl [] s := hK
  have hP9 := hP.sub (ws' := [(h0, .inr (11, [.ref a, v1, v2, v3, v4, v5, v6, v7])), (a, .inr (4, [w0, w1, .int 0]))]) [0, 1] rfl
  have hD9 := hD.sub (ws' := [(h0, .inr (11, [.ref a, v1, v2, v3, v4, v5, v6, v7])), (a, .inr (4, [w0, w1, .int 0]))]) [0, 1] (by decide) rfl
  have hK9 := hK.sub (tys' := []) [] rfl
  exact vx_out (fun x hx => (htab x hx).elim) hlocks hce hcv hcl (fun t ht ha => ⟨(), trivial, ⟨rfl, by rw [ht]; exact hP9, va_K.moved ha hK9, hD9⟩, hS.F ht⟩) hS.2.2 (Nat.le_of_ble_eq_true rfl) (Nat.le_of_ble_eq_true rfl)
set_option maxHeartbeats 4000000 in
set_option maxRecDepth 100000 in
theorem x_getSpring (l : Launch) (hl9 : l.stackTraces = false) (dC : Nat → ClassId) (dI : Nat → Nat → Nat) (sz : Nat) (ed : Nat) (h0 : Nat) (a : Nat) (v1 : Value) (v2 : Value) (v3 : Value) (v4 : Value) (v5 : Value) (v6 : Value) (v7 : Value) (w0 : Value) (w1 : Value) (p0 : Int32) (p1 : Int32) : vx_Met l yX6_getSpring (pw_ws yX6_getSpring cX6_getSpring 4 (some .int)) ({ frames := 7, cells := 1, slots := 6, locals := 121 } : Room) (va_Pc [.ref h0, .int p0, .int p1] (fun U => U.heap.size = sz ∧ va_P (dC, dI) vwCl [(h0, .inr (11, [.ref a, v1, v2, v3, v4, v5, v6, v7])), (a, .inr (4, [w0, w1, .int 0]))] U.heap ∧ va_K (dC, dI) vwCl [] U ∧ va_D (fun _ => True) [(h0, .inr (11, [.ref a, v1, v2, v3, v4, v5, v6, v7])), (a, .inr (4, [w0, w1, .int 0]))] ∧ pz ed (va_A [(h0, .inr (11, [.ref a, v1, v2, v3, v4, v5, v6, v7])), (a, .inr (4, [w0, w1, .int 0]))] sz) U U.heap)) (va_Qi (fun (_ : Int32) (_ : Unit) => False) (fun (_ : Unit) (_ : State) => True) (va_A [(h0, .inr (11, [.ref a, v1, v2, v3, v4, v5, v6, v7])), (a, .inr (4, [w0, w1, .int 0]))] sz)) (vx_X px_T (fun (E : String) (_ : Unit) (t : State) => E = "java/lang/IndexOutOfBoundsException" ∧ va_P (dC, dI) vwCl [(h0, .inr (11, [.ref a, v1, v2, v3, v4, v5, v6, v7])), (a, .inr (4, [w0, w1, .int 0]))] t.heap ∧ va_K (dC, dI) vwCl [] t ∧ va_D (va_A [(h0, .inr (11, [.ref a, v1, v2, v3, v4, v5, v6, v7])), (a, .inr (4, [w0, w1, .int 0]))] sz) [(h0, .inr (11, [.ref a, v1, v2, v3, v4, v5, v6, v7])), (a, .inr (4, [w0, w1, .int 0]))]) (va_A [(h0, .inr (11, [.ref a, v1, v2, v3, v4, v5, v6, v7])), (a, .inr (4, [w0, w1, .int 0]))] sz)) 1 6 (va_A [(h0, .inr (11, [.ref a, v1, v2, v3, v4, v5, v6, v7])), (a, .inr (4, [w0, w1, .int 0]))] sz) := by
  refine vx_ofW (cc := cX6_getSpring) (maxL := 4) (ret := (some .int)) (by decide) rfl ?_
  intro p e s m args below meth c s₁ B hml htab hv
  obtain ⟨rfl, hsz, hP, hK, hD0, hZ⟩ := hv
  have hx := B.exec
  have hb := B.bytes
  have hr := B.returns
  have hts0 := atoms_spec (ws := (pw_ws yX6_getSpring cX6_getSpring 4 (some .int))) B.pre
  have hts : ∀ w ∈ pw_all, w.before _ s = true := fun w h => hts0 w (List.mem_cons_of_mem _ h)
  have hown : s.vm.findClass RX6 = some m.cls := findClass_of_methodNamed B.named
  have hlocks := B.notSynchronized
  subst hsz
  have hD := hD0.self (sz := s.heap.size)
  generalize hAe : va_A [(h0, .inr (11, [.ref a, v1, v2, v3, v4, v5, v6, v7])), (a, .inr (4, [w0, w1, .int 0]))] s.heap.size = A at hD hZ ⊢
  have hA : ∀ q : Nat, s.heap.size ≤ q → A q := fun q h => by rw [← hAe]; exact Or.inr h
  have hS : va_S A s.heap s.heap [] := va_S.rf
  have hP : va_P (dC, dI) vwCl [(h0, .inr (11, [.ref a, v1, v2, v3, v4, v5, v6, v7])), (a, .inr (4, [w0, w1, .int 0]))] s.heap := hP
  have hl := lv_entry ([.ref h0, .int p0, .int p1]) (n := 4) (Nat.le_of_ble_eq_true rfl)
  rw [lg_entry_eq]
  generalize (lg_sl ([.ref h0, .int p0, .int p1]) ++ List.replicate (4 - (lg_sl ([.ref h0, .int p0, .int p1])).length) Slot.unset).toArray = ls at hl ⊢
  have hl : lv_has ls 4 [(0, .ref h0), (1, .int p0), (2, .int p1)] := hl
  skip
  refine lv_aload_n hx hb dX6_getSpring_0 rfl (lv_at hl 0 rfl) ?_
  refine lv_iload_n hx hb dX6_getSpring_1 rfl (lv_at hl 1 rfl) ?_
  have hPc := hP.sub (ws' := [(h0, .inr (11, [.ref a, v1, v2, v3, v4, v5, v6, v7])), (a, .inr (4, [w0, w1, .int 0]))]) [0, 1] rfl
  have hDc := hD.sub (ws' := [(h0, .inr (11, [.ref a, v1, v2, v3, v4, v5, v6, v7])), (a, .inr (4, [w0, w1, .int 0]))]) [0, 1] (by decide) rfl
  have hKc := hK.sub (tys' := []) [] rfl
  have hFc := va_free (wc := [(h0, .inr (11, [.ref a, v1, v2, v3, v4, v5, v6, v7])), (a, .inr (4, [w0, w1, .int 0]))]) hD hS hA [0, 1] rfl
  refine vx_callr (vx_runV (As := [.int p0]) (rest := []) ⟨hx, hb, hml, hown, hts⟩ (m_structureAt l hl9 dC dI s.heap.size ed h0 a v1 v2 v3 v4 v5 v6 v7 w0 w1 p0) (cwV 1 hts (pw_V q508 q510 q7 q43 q511) rfl rfl rfl (by decide +kernel) ⟨(Nat.le_of_ble_eq_true rfl), (Nat.le_of_ble_eq_true rfl)⟩) ⟨fun a U g mk q => by obtain ⟨q0, q1, qP, qK, qD, qZ⟩ := q; exact ⟨q0, q1, qP, va_K.moved (u := U) (U := U.calling g mk a) (Vm.Alike.refl U.vm) qK, qD, qZ.same rfl⟩, va_recv hKc hPc (ci := 11) (q0 := 0) rfl rfl, fun U hU hW => ⟨rfl, by rw [hU], by rw [hU]; exact hPc, va_K.moved hW.alike hKc, hDc.weaken (fun _ _ _ _ => trivial), hZ.call hS hFc hU hW⟩⟩ rfl rfl hl.1 rfl (lv_room (Nat.le_of_ble_eq_true rfl)) dX6_getSpring_2 ⟨(Nat.le_of_ble_eq_true rfl), (Nat.le_of_ble_eq_true rfl)⟩) hS (fun q _ h => hFc q h) hFc (fun q _ h => hFc q h) (fun E ce q9 u t H1 locs ht hvm hw hB hz1 hk1 hS hce hcv hcl => ?_) (fun u r_102 t H1 locs ht hvm hw hB hz1 hk1 hS => hw.elim)
  obtain ⟨rfl, hP1, hK1, hD1⟩ := hB
  rw [ht] at hP1
  have hK1 := va_K.moved hvm.symm hK1
  obtain ⟨hP, hD⟩ := va_join (wr := []) (w1 := [(h0, .inr (11, [.ref a, v1, v2, v3, v4, v5, v6, v7])), (a, .inr (4, [w0, w1, .int 0]))]) hP hD [0, 1] [] rfl rfl (by decide) (by decide) hk1 hFc hP1 hD1
  have hK := (hK.sub (tys' := []) [] rfl).app hK1
  generalize H1 = H at hP hS hce ⊢
  have hP : va_P (dC, dI) vwCl [(h0, .inr (11, [.ref a, v1, v2, v3, v4, v5, v6, v7])), (a, .inr (4, [w0, w1, .int 0]))] H := hP
  have hD : va_D A [(h0, .inr (11, [.ref a, v1, v2, v3, v4, v5, v6, v7])), (a, .inr (4, [w0, w1, .int 0]))] := hD
  have hK : va_K (dC, dI) vwCl [] s := hK
  have hP9 := hP.sub (ws' := [(h0, .inr (11, [.ref a, v1, v2, v3, v4, v5, v6, v7])), (a, .inr (4, [w0, w1, .int 0]))]) [0, 1] rfl
  have hD9 := hD.sub (ws' := [(h0, .inr (11, [.ref a, v1, v2, v3, v4, v5, v6, v7])), (a, .inr (4, [w0, w1, .int 0]))]) [0, 1] (by decide) rfl
  have hK9 := hK.sub (tys' := []) [] rfl
  exact vx_out (fun x hx => (htab x hx).elim) hlocks hce hcv hcl (fun t ht ha => ⟨(), trivial, ⟨rfl, by rw [ht]; exact hP9, va_K.moved ha hK9, hD9⟩, hS.F ht⟩) hS.2.2 (Nat.le_of_ble_eq_true rfl) (Nat.le_of_ble_eq_true rfl)
set_option maxHeartbeats 4000000 in
set_option maxRecDepth 100000 in
theorem x_getResponse (l : Launch) (hl9 : l.stackTraces = false) (dC : Nat → ClassId) (dI : Nat → Nat → Nat) (sz : Nat) (ed : Nat) (h0 : Nat) (a : Nat) (v1 : Value) (v2 : Value) (v3 : Value) (v4 : Value) (v5 : Value) (v6 : Value) (v7 : Value) (w0 : Value) (w1 : Value) (p0 : Int32) (p1 : Int32) (p2 : Int32) : vx_Met l yX6_getResponse (pw_ws yX6_getResponse cX6_getResponse 5 (some .int)) ({ frames := 7, cells := 1, slots := 6, locals := 121 } : Room) (va_Pc [.ref h0, .int p0, .int p1, .int p2] (fun U => U.heap.size = sz ∧ va_P (dC, dI) vwCl [(h0, .inr (11, [.ref a, v1, v2, v3, v4, v5, v6, v7])), (a, .inr (4, [w0, w1, .int 0]))] U.heap ∧ va_K (dC, dI) vwCl [] U ∧ va_D (fun _ => True) [(h0, .inr (11, [.ref a, v1, v2, v3, v4, v5, v6, v7])), (a, .inr (4, [w0, w1, .int 0]))] ∧ pz ed (va_A [(h0, .inr (11, [.ref a, v1, v2, v3, v4, v5, v6, v7])), (a, .inr (4, [w0, w1, .int 0]))] sz) U U.heap)) (va_Qi (fun (_ : Int32) (_ : Unit) => False) (fun (_ : Unit) (_ : State) => True) (va_A [(h0, .inr (11, [.ref a, v1, v2, v3, v4, v5, v6, v7])), (a, .inr (4, [w0, w1, .int 0]))] sz)) (vx_X px_T (fun (E : String) (_ : Unit) (t : State) => E = "java/lang/IndexOutOfBoundsException" ∧ va_P (dC, dI) vwCl [(h0, .inr (11, [.ref a, v1, v2, v3, v4, v5, v6, v7])), (a, .inr (4, [w0, w1, .int 0]))] t.heap ∧ va_K (dC, dI) vwCl [] t ∧ va_D (va_A [(h0, .inr (11, [.ref a, v1, v2, v3, v4, v5, v6, v7])), (a, .inr (4, [w0, w1, .int 0]))] sz) [(h0, .inr (11, [.ref a, v1, v2, v3, v4, v5, v6, v7])), (a, .inr (4, [w0, w1, .int 0]))]) (va_A [(h0, .inr (11, [.ref a, v1, v2, v3, v4, v5, v6, v7])), (a, .inr (4, [w0, w1, .int 0]))] sz)) 1 6 (va_A [(h0, .inr (11, [.ref a, v1, v2, v3, v4, v5, v6, v7])), (a, .inr (4, [w0, w1, .int 0]))] sz) := by
  refine vx_ofW (cc := cX6_getResponse) (maxL := 5) (ret := (some .int)) (by decide) rfl ?_
  intro p e s m args below meth c s₁ B hml htab hv
  obtain ⟨rfl, hsz, hP, hK, hD0, hZ⟩ := hv
  have hx := B.exec
  have hb := B.bytes
  have hr := B.returns
  have hts0 := atoms_spec (ws := (pw_ws yX6_getResponse cX6_getResponse 5 (some .int))) B.pre
  have hts : ∀ w ∈ pw_all, w.before _ s = true := fun w h => hts0 w (List.mem_cons_of_mem _ h)
  have hown : s.vm.findClass RX6 = some m.cls := findClass_of_methodNamed B.named
  have hlocks := B.notSynchronized
  subst hsz
  have hD := hD0.self (sz := s.heap.size)
  generalize hAe : va_A [(h0, .inr (11, [.ref a, v1, v2, v3, v4, v5, v6, v7])), (a, .inr (4, [w0, w1, .int 0]))] s.heap.size = A at hD hZ ⊢
  have hA : ∀ q : Nat, s.heap.size ≤ q → A q := fun q h => by rw [← hAe]; exact Or.inr h
  have hS : va_S A s.heap s.heap [] := va_S.rf
  have hP : va_P (dC, dI) vwCl [(h0, .inr (11, [.ref a, v1, v2, v3, v4, v5, v6, v7])), (a, .inr (4, [w0, w1, .int 0]))] s.heap := hP
  have hl := lv_entry ([.ref h0, .int p0, .int p1, .int p2]) (n := 5) (Nat.le_of_ble_eq_true rfl)
  rw [lg_entry_eq]
  generalize (lg_sl ([.ref h0, .int p0, .int p1, .int p2]) ++ List.replicate (5 - (lg_sl ([.ref h0, .int p0, .int p1, .int p2])).length) Slot.unset).toArray = ls at hl ⊢
  have hl : lv_has ls 5 [(0, .ref h0), (1, .int p0), (2, .int p1), (3, .int p2)] := hl
  skip
  refine lv_aload_n hx hb dX6_getResponse_0 rfl (lv_at hl 0 rfl) ?_
  refine lv_iload_n hx hb dX6_getResponse_1 rfl (lv_at hl 1 rfl) ?_
  have hPc := hP.sub (ws' := [(h0, .inr (11, [.ref a, v1, v2, v3, v4, v5, v6, v7])), (a, .inr (4, [w0, w1, .int 0]))]) [0, 1] rfl
  have hDc := hD.sub (ws' := [(h0, .inr (11, [.ref a, v1, v2, v3, v4, v5, v6, v7])), (a, .inr (4, [w0, w1, .int 0]))]) [0, 1] (by decide) rfl
  have hKc := hK.sub (tys' := []) [] rfl
  have hFc := va_free (wc := [(h0, .inr (11, [.ref a, v1, v2, v3, v4, v5, v6, v7])), (a, .inr (4, [w0, w1, .int 0]))]) hD hS hA [0, 1] rfl
  refine vx_callr (vx_runV (As := [.int p0]) (rest := []) ⟨hx, hb, hml, hown, hts⟩ (m_structureAt l hl9 dC dI s.heap.size ed h0 a v1 v2 v3 v4 v5 v6 v7 w0 w1 p0) (cwV 1 hts (pw_V q508 q510 q7 q43 q511) rfl rfl rfl (by decide +kernel) ⟨(Nat.le_of_ble_eq_true rfl), (Nat.le_of_ble_eq_true rfl)⟩) ⟨fun a U g mk q => by obtain ⟨q0, q1, qP, qK, qD, qZ⟩ := q; exact ⟨q0, q1, qP, va_K.moved (u := U) (U := U.calling g mk a) (Vm.Alike.refl U.vm) qK, qD, qZ.same rfl⟩, va_recv hKc hPc (ci := 11) (q0 := 0) rfl rfl, fun U hU hW => ⟨rfl, by rw [hU], by rw [hU]; exact hPc, va_K.moved hW.alike hKc, hDc.weaken (fun _ _ _ _ => trivial), hZ.call hS hFc hU hW⟩⟩ rfl rfl hl.1 rfl (lv_room (Nat.le_of_ble_eq_true rfl)) dX6_getResponse_2 ⟨(Nat.le_of_ble_eq_true rfl), (Nat.le_of_ble_eq_true rfl)⟩) hS (fun q _ h => hFc q h) hFc (fun q _ h => hFc q h) (fun E ce q9 u t H1 locs ht hvm hw hB hz1 hk1 hS hce hcv hcl => ?_) (fun u r_103 t H1 locs ht hvm hw hB hz1 hk1 hS => hw.elim)
  obtain ⟨rfl, hP1, hK1, hD1⟩ := hB
  rw [ht] at hP1
  have hK1 := va_K.moved hvm.symm hK1
  obtain ⟨hP, hD⟩ := va_join (wr := []) (w1 := [(h0, .inr (11, [.ref a, v1, v2, v3, v4, v5, v6, v7])), (a, .inr (4, [w0, w1, .int 0]))]) hP hD [0, 1] [] rfl rfl (by decide) (by decide) hk1 hFc hP1 hD1
  have hK := (hK.sub (tys' := []) [] rfl).app hK1
  generalize H1 = H at hP hS hce ⊢
  have hP : va_P (dC, dI) vwCl [(h0, .inr (11, [.ref a, v1, v2, v3, v4, v5, v6, v7])), (a, .inr (4, [w0, w1, .int 0]))] H := hP
  have hD : va_D A [(h0, .inr (11, [.ref a, v1, v2, v3, v4, v5, v6, v7])), (a, .inr (4, [w0, w1, .int 0]))] := hD
  have hK : va_K (dC, dI) vwCl [] s := hK
  have hP9 := hP.sub (ws' := [(h0, .inr (11, [.ref a, v1, v2, v3, v4, v5, v6, v7])), (a, .inr (4, [w0, w1, .int 0]))]) [0, 1] rfl
  have hD9 := hD.sub (ws' := [(h0, .inr (11, [.ref a, v1, v2, v3, v4, v5, v6, v7])), (a, .inr (4, [w0, w1, .int 0]))]) [0, 1] (by decide) rfl
  have hK9 := hK.sub (tys' := []) [] rfl
  exact vx_out (fun x hx => (htab x hx).elim) hlocks hce hcv hcl (fun t ht ha => ⟨(), trivial, ⟨rfl, by rw [ht]; exact hP9, va_K.moved ha hK9, hD9⟩, hS.F ht⟩) hS.2.2 (Nat.le_of_ble_eq_true rfl) (Nat.le_of_ble_eq_true rfl)
set_option maxHeartbeats 4000000 in
set_option maxRecDepth 100000 in
theorem x_getResonance (l : Launch) (hl9 : l.stackTraces = false) (dC : Nat → ClassId) (dI : Nat → Nat → Nat) (sz : Nat) (ed : Nat) (h0 : Nat) (a : Nat) (v1 : Value) (v2 : Value) (v3 : Value) (v4 : Value) (v5 : Value) (v6 : Value) (v7 : Value) (w0 : Value) (w1 : Value) (p0 : Int32) : vx_Met l yX6_getResonance (pw_ws yX6_getResonance cX6_getResonance 3 (some .int)) ({ frames := 7, cells := 1, slots := 6, locals := 121 } : Room) (va_Pc [.ref h0, .int p0] (fun U => U.heap.size = sz ∧ va_P (dC, dI) vwCl [(h0, .inr (11, [.ref a, v1, v2, v3, v4, v5, v6, v7])), (a, .inr (4, [w0, w1, .int 0]))] U.heap ∧ va_K (dC, dI) vwCl [] U ∧ va_D (fun _ => True) [(h0, .inr (11, [.ref a, v1, v2, v3, v4, v5, v6, v7])), (a, .inr (4, [w0, w1, .int 0]))] ∧ pz ed (va_A [(h0, .inr (11, [.ref a, v1, v2, v3, v4, v5, v6, v7])), (a, .inr (4, [w0, w1, .int 0]))] sz) U U.heap)) (va_Qi (fun (_ : Int32) (_ : Unit) => False) (fun (_ : Unit) (_ : State) => True) (va_A [(h0, .inr (11, [.ref a, v1, v2, v3, v4, v5, v6, v7])), (a, .inr (4, [w0, w1, .int 0]))] sz)) (vx_X px_T (fun (E : String) (_ : Unit) (t : State) => E = "java/lang/IndexOutOfBoundsException" ∧ va_P (dC, dI) vwCl [(h0, .inr (11, [.ref a, v1, v2, v3, v4, v5, v6, v7])), (a, .inr (4, [w0, w1, .int 0]))] t.heap ∧ va_K (dC, dI) vwCl [] t ∧ va_D (va_A [(h0, .inr (11, [.ref a, v1, v2, v3, v4, v5, v6, v7])), (a, .inr (4, [w0, w1, .int 0]))] sz) [(h0, .inr (11, [.ref a, v1, v2, v3, v4, v5, v6, v7])), (a, .inr (4, [w0, w1, .int 0]))]) (va_A [(h0, .inr (11, [.ref a, v1, v2, v3, v4, v5, v6, v7])), (a, .inr (4, [w0, w1, .int 0]))] sz)) 1 6 (va_A [(h0, .inr (11, [.ref a, v1, v2, v3, v4, v5, v6, v7])), (a, .inr (4, [w0, w1, .int 0]))] sz) := by
  refine vx_ofW (cc := cX6_getResonance) (maxL := 3) (ret := (some .int)) (by decide) rfl ?_
  intro p e s m args below meth c s₁ B hml htab hv
  obtain ⟨rfl, hsz, hP, hK, hD0, hZ⟩ := hv
  have hx := B.exec
  have hb := B.bytes
  have hr := B.returns
  have hts0 := atoms_spec (ws := (pw_ws yX6_getResonance cX6_getResonance 3 (some .int))) B.pre
  have hts : ∀ w ∈ pw_all, w.before _ s = true := fun w h => hts0 w (List.mem_cons_of_mem _ h)
  have hown : s.vm.findClass RX6 = some m.cls := findClass_of_methodNamed B.named
  have hlocks := B.notSynchronized
  subst hsz
  have hD := hD0.self (sz := s.heap.size)
  generalize hAe : va_A [(h0, .inr (11, [.ref a, v1, v2, v3, v4, v5, v6, v7])), (a, .inr (4, [w0, w1, .int 0]))] s.heap.size = A at hD hZ ⊢
  have hA : ∀ q : Nat, s.heap.size ≤ q → A q := fun q h => by rw [← hAe]; exact Or.inr h
  have hS : va_S A s.heap s.heap [] := va_S.rf
  have hP : va_P (dC, dI) vwCl [(h0, .inr (11, [.ref a, v1, v2, v3, v4, v5, v6, v7])), (a, .inr (4, [w0, w1, .int 0]))] s.heap := hP
  have hl := lv_entry ([.ref h0, .int p0]) (n := 3) (Nat.le_of_ble_eq_true rfl)
  rw [lg_entry_eq]
  generalize (lg_sl ([.ref h0, .int p0]) ++ List.replicate (3 - (lg_sl ([.ref h0, .int p0])).length) Slot.unset).toArray = ls at hl ⊢
  have hl : lv_has ls 3 [(0, .ref h0), (1, .int p0)] := hl
  skip
  refine lv_aload_n hx hb dX6_getResonance_0 rfl (lv_at hl 0 rfl) ?_
  refine lv_iload_n hx hb dX6_getResonance_1 rfl (lv_at hl 1 rfl) ?_
  have hPc := hP.sub (ws' := [(h0, .inr (11, [.ref a, v1, v2, v3, v4, v5, v6, v7])), (a, .inr (4, [w0, w1, .int 0]))]) [0, 1] rfl
  have hDc := hD.sub (ws' := [(h0, .inr (11, [.ref a, v1, v2, v3, v4, v5, v6, v7])), (a, .inr (4, [w0, w1, .int 0]))]) [0, 1] (by decide) rfl
  have hKc := hK.sub (tys' := []) [] rfl
  have hFc := va_free (wc := [(h0, .inr (11, [.ref a, v1, v2, v3, v4, v5, v6, v7])), (a, .inr (4, [w0, w1, .int 0]))]) hD hS hA [0, 1] rfl
  refine vx_callr (vx_runV (As := [.int p0]) (rest := []) ⟨hx, hb, hml, hown, hts⟩ (m_structureAt l hl9 dC dI s.heap.size ed h0 a v1 v2 v3 v4 v5 v6 v7 w0 w1 p0) (cwV 1 hts (pw_V q508 q510 q7 q43 q511) rfl rfl rfl (by decide +kernel) ⟨(Nat.le_of_ble_eq_true rfl), (Nat.le_of_ble_eq_true rfl)⟩) ⟨fun a U g mk q => by obtain ⟨q0, q1, qP, qK, qD, qZ⟩ := q; exact ⟨q0, q1, qP, va_K.moved (u := U) (U := U.calling g mk a) (Vm.Alike.refl U.vm) qK, qD, qZ.same rfl⟩, va_recv hKc hPc (ci := 11) (q0 := 0) rfl rfl, fun U hU hW => ⟨rfl, by rw [hU], by rw [hU]; exact hPc, va_K.moved hW.alike hKc, hDc.weaken (fun _ _ _ _ => trivial), hZ.call hS hFc hU hW⟩⟩ rfl rfl hl.1 rfl (lv_room (Nat.le_of_ble_eq_true rfl)) dX6_getResonance_2 ⟨(Nat.le_of_ble_eq_true rfl), (Nat.le_of_ble_eq_true rfl)⟩) hS (fun q _ h => hFc q h) hFc (fun q _ h => hFc q h) (fun E ce q9 u t H1 locs ht hvm hw hB hz1 hk1 hS hce hcv hcl => ?_) (fun u r_104 t H1 locs ht hvm hw hB hz1 hk1 hS => hw.elim)
  obtain ⟨rfl, hP1, hK1, hD1⟩ := hB
  rw [ht] at hP1
  have hK1 := va_K.moved hvm.symm hK1
  obtain ⟨hP, hD⟩ := va_join (wr := []) (w1 := [(h0, .inr (11, [.ref a, v1, v2, v3, v4, v5, v6, v7])), (a, .inr (4, [w0, w1, .int 0]))]) hP hD [0, 1] [] rfl rfl (by decide) (by decide) hk1 hFc hP1 hD1
  have hK := (hK.sub (tys' := []) [] rfl).app hK1
  generalize H1 = H at hP hS hce ⊢
  have hP : va_P (dC, dI) vwCl [(h0, .inr (11, [.ref a, v1, v2, v3, v4, v5, v6, v7])), (a, .inr (4, [w0, w1, .int 0]))] H := hP
  have hD : va_D A [(h0, .inr (11, [.ref a, v1, v2, v3, v4, v5, v6, v7])), (a, .inr (4, [w0, w1, .int 0]))] := hD
  have hK : va_K (dC, dI) vwCl [] s := hK
  have hP9 := hP.sub (ws' := [(h0, .inr (11, [.ref a, v1, v2, v3, v4, v5, v6, v7])), (a, .inr (4, [w0, w1, .int 0]))]) [0, 1] rfl
  have hD9 := hD.sub (ws' := [(h0, .inr (11, [.ref a, v1, v2, v3, v4, v5, v6, v7])), (a, .inr (4, [w0, w1, .int 0]))]) [0, 1] (by decide) rfl
  have hK9 := hK.sub (tys' := []) [] rfl
  exact vx_out (fun x hx => (htab x hx).elim) hlocks hce hcv hcl (fun t ht ha => ⟨(), trivial, ⟨rfl, by rw [ht]; exact hP9, va_K.moved ha hK9, hD9⟩, hS.F ht⟩) hS.2.2 (Nat.le_of_ble_eq_true rfl) (Nat.le_of_ble_eq_true rfl)
set_option maxHeartbeats 4000000 in
set_option maxRecDepth 100000 in
theorem x_addSensor (l : Launch) (hl9 : l.stackTraces = false) (dC : Nat → ClassId) (dI : Nat → Nat → Nat) (sz : Nat) (ed : Nat) (h0 : Nat) (a : Nat) (v1 : Value) (v2 : Value) (v3 : Value) (v4 : Value) (v5 : Value) (v6 : Value) (v7 : Value) (w0 : Value) (w1 : Value) (p0 : Int32) (p1 : Int32) (p2 : Int32) (p3 : Int32) : vx_Met l yX6_addSensor (pw_ws yX6_addSensor cX6_addSensor 6 (some .int)) ({ frames := 7, cells := 1, slots := 6, locals := 121 } : Room) (va_Pc [.ref h0, .int p0, .int p1, .int p2, .int p3] (fun U => U.heap.size = sz ∧ va_P (dC, dI) vwCl [(h0, .inr (11, [.ref a, v1, v2, v3, v4, v5, v6, v7])), (a, .inr (4, [w0, w1, .int 0]))] U.heap ∧ va_K (dC, dI) vwCl [] U ∧ va_D (fun _ => True) [(h0, .inr (11, [.ref a, v1, v2, v3, v4, v5, v6, v7])), (a, .inr (4, [w0, w1, .int 0]))] ∧ pz ed (va_A [(h0, .inr (11, [.ref a, v1, v2, v3, v4, v5, v6, v7])), (a, .inr (4, [w0, w1, .int 0]))] sz) U U.heap)) (va_Qi (fun (_ : Int32) (_ : Unit) => False) (fun (_ : Unit) (_ : State) => True) (va_A [(h0, .inr (11, [.ref a, v1, v2, v3, v4, v5, v6, v7])), (a, .inr (4, [w0, w1, .int 0]))] sz)) (vx_X px_T (fun (E : String) (_ : Unit) (t : State) => E = "java/lang/IndexOutOfBoundsException" ∧ va_P (dC, dI) vwCl [(h0, .inr (11, [.ref a, v1, v2, v3, v4, v5, v6, v7])), (a, .inr (4, [w0, w1, .int 0]))] t.heap ∧ va_K (dC, dI) vwCl [] t ∧ va_D (va_A [(h0, .inr (11, [.ref a, v1, v2, v3, v4, v5, v6, v7])), (a, .inr (4, [w0, w1, .int 0]))] sz) [(h0, .inr (11, [.ref a, v1, v2, v3, v4, v5, v6, v7])), (a, .inr (4, [w0, w1, .int 0]))]) (va_A [(h0, .inr (11, [.ref a, v1, v2, v3, v4, v5, v6, v7])), (a, .inr (4, [w0, w1, .int 0]))] sz)) 1 6 (va_A [(h0, .inr (11, [.ref a, v1, v2, v3, v4, v5, v6, v7])), (a, .inr (4, [w0, w1, .int 0]))] sz) := by
  refine vx_ofW (cc := cX6_addSensor) (maxL := 6) (ret := (some .int)) (by decide) rfl ?_
  intro p e s m args below meth c s₁ B hml htab hv
  obtain ⟨rfl, hsz, hP, hK, hD0, hZ⟩ := hv
  have hx := B.exec
  have hb := B.bytes
  have hr := B.returns
  have hts0 := atoms_spec (ws := (pw_ws yX6_addSensor cX6_addSensor 6 (some .int))) B.pre
  have hts : ∀ w ∈ pw_all, w.before _ s = true := fun w h => hts0 w (List.mem_cons_of_mem _ h)
  have hown : s.vm.findClass RX6 = some m.cls := findClass_of_methodNamed B.named
  have hlocks := B.notSynchronized
  subst hsz
  have hD := hD0.self (sz := s.heap.size)
  generalize hAe : va_A [(h0, .inr (11, [.ref a, v1, v2, v3, v4, v5, v6, v7])), (a, .inr (4, [w0, w1, .int 0]))] s.heap.size = A at hD hZ ⊢
  have hA : ∀ q : Nat, s.heap.size ≤ q → A q := fun q h => by rw [← hAe]; exact Or.inr h
  have hS : va_S A s.heap s.heap [] := va_S.rf
  have hP : va_P (dC, dI) vwCl [(h0, .inr (11, [.ref a, v1, v2, v3, v4, v5, v6, v7])), (a, .inr (4, [w0, w1, .int 0]))] s.heap := hP
  have hl := lv_entry ([.ref h0, .int p0, .int p1, .int p2, .int p3]) (n := 6) (Nat.le_of_ble_eq_true rfl)
  rw [lg_entry_eq]
  generalize (lg_sl ([.ref h0, .int p0, .int p1, .int p2, .int p3]) ++ List.replicate (6 - (lg_sl ([.ref h0, .int p0, .int p1, .int p2, .int p3])).length) Slot.unset).toArray = ls at hl ⊢
  have hl : lv_has ls 6 [(0, .ref h0), (1, .int p0), (2, .int p1), (3, .int p2), (4, .int p3)] := hl
  skip
  refine lv_aload_n hx hb dX6_addSensor_0 rfl (lv_at hl 0 rfl) ?_
  refine lv_iload_n hx hb dX6_addSensor_1 rfl (lv_at hl 1 rfl) ?_
  have hPc := hP.sub (ws' := [(h0, .inr (11, [.ref a, v1, v2, v3, v4, v5, v6, v7])), (a, .inr (4, [w0, w1, .int 0]))]) [0, 1] rfl
  have hDc := hD.sub (ws' := [(h0, .inr (11, [.ref a, v1, v2, v3, v4, v5, v6, v7])), (a, .inr (4, [w0, w1, .int 0]))]) [0, 1] (by decide) rfl
  have hKc := hK.sub (tys' := []) [] rfl
  have hFc := va_free (wc := [(h0, .inr (11, [.ref a, v1, v2, v3, v4, v5, v6, v7])), (a, .inr (4, [w0, w1, .int 0]))]) hD hS hA [0, 1] rfl
  refine vx_callr (vx_runV (As := [.int p0]) (rest := []) ⟨hx, hb, hml, hown, hts⟩ (m_structureAt l hl9 dC dI s.heap.size ed h0 a v1 v2 v3 v4 v5 v6 v7 w0 w1 p0) (cwV 1 hts (pw_V q508 q510 q7 q43 q511) rfl rfl rfl (by decide +kernel) ⟨(Nat.le_of_ble_eq_true rfl), (Nat.le_of_ble_eq_true rfl)⟩) ⟨fun a U g mk q => by obtain ⟨q0, q1, qP, qK, qD, qZ⟩ := q; exact ⟨q0, q1, qP, va_K.moved (u := U) (U := U.calling g mk a) (Vm.Alike.refl U.vm) qK, qD, qZ.same rfl⟩, va_recv hKc hPc (ci := 11) (q0 := 0) rfl rfl, fun U hU hW => ⟨rfl, by rw [hU], by rw [hU]; exact hPc, va_K.moved hW.alike hKc, hDc.weaken (fun _ _ _ _ => trivial), hZ.call hS hFc hU hW⟩⟩ rfl rfl hl.1 rfl (lv_room (Nat.le_of_ble_eq_true rfl)) dX6_addSensor_2 ⟨(Nat.le_of_ble_eq_true rfl), (Nat.le_of_ble_eq_true rfl)⟩) hS (fun q _ h => hFc q h) hFc (fun q _ h => hFc q h) (fun E ce q9 u t H1 locs ht hvm hw hB hz1 hk1 hS hce hcv hcl => ?_) (fun u r_105 t H1 locs ht hvm hw hB hz1 hk1 hS => hw.elim)
  obtain ⟨rfl, hP1, hK1, hD1⟩ := hB
  rw [ht] at hP1
  have hK1 := va_K.moved hvm.symm hK1
  obtain ⟨hP, hD⟩ := va_join (wr := []) (w1 := [(h0, .inr (11, [.ref a, v1, v2, v3, v4, v5, v6, v7])), (a, .inr (4, [w0, w1, .int 0]))]) hP hD [0, 1] [] rfl rfl (by decide) (by decide) hk1 hFc hP1 hD1
  have hK := (hK.sub (tys' := []) [] rfl).app hK1
  generalize H1 = H at hP hS hce ⊢
  have hP : va_P (dC, dI) vwCl [(h0, .inr (11, [.ref a, v1, v2, v3, v4, v5, v6, v7])), (a, .inr (4, [w0, w1, .int 0]))] H := hP
  have hD : va_D A [(h0, .inr (11, [.ref a, v1, v2, v3, v4, v5, v6, v7])), (a, .inr (4, [w0, w1, .int 0]))] := hD
  have hK : va_K (dC, dI) vwCl [] s := hK
  have hP9 := hP.sub (ws' := [(h0, .inr (11, [.ref a, v1, v2, v3, v4, v5, v6, v7])), (a, .inr (4, [w0, w1, .int 0]))]) [0, 1] rfl
  have hD9 := hD.sub (ws' := [(h0, .inr (11, [.ref a, v1, v2, v3, v4, v5, v6, v7])), (a, .inr (4, [w0, w1, .int 0]))]) [0, 1] (by decide) rfl
  have hK9 := hK.sub (tys' := []) [] rfl
  exact vx_out (fun x hx => (htab x hx).elim) hlocks hce hcv hcl (fun t ht ha => ⟨(), trivial, ⟨rfl, by rw [ht]; exact hP9, va_K.moved ha hK9, hD9⟩, hS.F ht⟩) hS.2.2 (Nat.le_of_ble_eq_true rfl) (Nat.le_of_ble_eq_true rfl)
set_option maxHeartbeats 4000000 in
set_option maxRecDepth 100000 in
theorem x_addRun (l : Launch) (hl9 : l.stackTraces = false) (dC : Nat → ClassId) (dI : Nat → Nat → Nat) (sz : Nat) (ed : Nat) (h0 : Nat) (a : Nat) (v1 : Value) (v2 : Value) (v3 : Value) (v4 : Value) (v5 : Value) (v6 : Value) (v7 : Value) (w0 : Value) (w1 : Value) (p0 : Int32) (p1 : Int32) (p2 : Int32) : vx_Met l yX6_addRun (pw_ws yX6_addRun cX6_addRun 6 (some .int)) ({ frames := 7, cells := 1, slots := 6, locals := 121 } : Room) (va_Pc [.ref h0, .int p0, .int p1, .int p2] (fun U => U.heap.size = sz ∧ va_P (dC, dI) vwCl [(h0, .inr (11, [.ref a, v1, v2, v3, v4, v5, v6, v7])), (a, .inr (4, [w0, w1, .int 0]))] U.heap ∧ va_K (dC, dI) vwCl [] U ∧ va_D (fun _ => True) [(h0, .inr (11, [.ref a, v1, v2, v3, v4, v5, v6, v7])), (a, .inr (4, [w0, w1, .int 0]))] ∧ pz ed (va_A [(h0, .inr (11, [.ref a, v1, v2, v3, v4, v5, v6, v7])), (a, .inr (4, [w0, w1, .int 0]))] sz) U U.heap)) (va_Qi (fun (_ : Int32) (_ : Unit) => False) (fun (_ : Unit) (_ : State) => True) (va_A [(h0, .inr (11, [.ref a, v1, v2, v3, v4, v5, v6, v7])), (a, .inr (4, [w0, w1, .int 0]))] sz)) (vx_X px_T (fun (E : String) (_ : Unit) (t : State) => E = "java/lang/IndexOutOfBoundsException" ∧ va_P (dC, dI) vwCl [(h0, .inr (11, [.ref a, v1, v2, v3, v4, v5, v6, v7])), (a, .inr (4, [w0, w1, .int 0]))] t.heap ∧ va_K (dC, dI) vwCl [] t ∧ va_D (va_A [(h0, .inr (11, [.ref a, v1, v2, v3, v4, v5, v6, v7])), (a, .inr (4, [w0, w1, .int 0]))] sz) [(h0, .inr (11, [.ref a, v1, v2, v3, v4, v5, v6, v7])), (a, .inr (4, [w0, w1, .int 0]))]) (va_A [(h0, .inr (11, [.ref a, v1, v2, v3, v4, v5, v6, v7])), (a, .inr (4, [w0, w1, .int 0]))] sz)) 1 6 (va_A [(h0, .inr (11, [.ref a, v1, v2, v3, v4, v5, v6, v7])), (a, .inr (4, [w0, w1, .int 0]))] sz) := by
  refine vx_ofW (cc := cX6_addRun) (maxL := 6) (ret := (some .int)) (by decide) rfl ?_
  intro p e s m args below meth c s₁ B hml htab hv
  obtain ⟨rfl, hsz, hP, hK, hD0, hZ⟩ := hv
  have hx := B.exec
  have hb := B.bytes
  have hr := B.returns
  have hts0 := atoms_spec (ws := (pw_ws yX6_addRun cX6_addRun 6 (some .int))) B.pre
  have hts : ∀ w ∈ pw_all, w.before _ s = true := fun w h => hts0 w (List.mem_cons_of_mem _ h)
  have hown : s.vm.findClass RX6 = some m.cls := findClass_of_methodNamed B.named
  have hlocks := B.notSynchronized
  subst hsz
  have hD := hD0.self (sz := s.heap.size)
  generalize hAe : va_A [(h0, .inr (11, [.ref a, v1, v2, v3, v4, v5, v6, v7])), (a, .inr (4, [w0, w1, .int 0]))] s.heap.size = A at hD hZ ⊢
  have hA : ∀ q : Nat, s.heap.size ≤ q → A q := fun q h => by rw [← hAe]; exact Or.inr h
  have hS : va_S A s.heap s.heap [] := va_S.rf
  have hP : va_P (dC, dI) vwCl [(h0, .inr (11, [.ref a, v1, v2, v3, v4, v5, v6, v7])), (a, .inr (4, [w0, w1, .int 0]))] s.heap := hP
  have hl := lv_entry ([.ref h0, .int p0, .int p1, .int p2]) (n := 6) (Nat.le_of_ble_eq_true rfl)
  rw [lg_entry_eq]
  generalize (lg_sl ([.ref h0, .int p0, .int p1, .int p2]) ++ List.replicate (6 - (lg_sl ([.ref h0, .int p0, .int p1, .int p2])).length) Slot.unset).toArray = ls at hl ⊢
  have hl : lv_has ls 6 [(0, .ref h0), (1, .int p0), (2, .int p1), (3, .int p2)] := hl
  skip
  refine lv_aload_n hx hb dX6_addRun_0 rfl (lv_at hl 0 rfl) ?_
  refine lv_iload_n hx hb dX6_addRun_1 rfl (lv_at hl 1 rfl) ?_
  have hPc := hP.sub (ws' := [(h0, .inr (11, [.ref a, v1, v2, v3, v4, v5, v6, v7])), (a, .inr (4, [w0, w1, .int 0]))]) [0, 1] rfl
  have hDc := hD.sub (ws' := [(h0, .inr (11, [.ref a, v1, v2, v3, v4, v5, v6, v7])), (a, .inr (4, [w0, w1, .int 0]))]) [0, 1] (by decide) rfl
  have hKc := hK.sub (tys' := []) [] rfl
  have hFc := va_free (wc := [(h0, .inr (11, [.ref a, v1, v2, v3, v4, v5, v6, v7])), (a, .inr (4, [w0, w1, .int 0]))]) hD hS hA [0, 1] rfl
  refine vx_callr (vx_runV (As := [.int p0]) (rest := []) ⟨hx, hb, hml, hown, hts⟩ (m_structureAt l hl9 dC dI s.heap.size ed h0 a v1 v2 v3 v4 v5 v6 v7 w0 w1 p0) (cwV 1 hts (pw_V q508 q510 q7 q43 q511) rfl rfl rfl (by decide +kernel) ⟨(Nat.le_of_ble_eq_true rfl), (Nat.le_of_ble_eq_true rfl)⟩) ⟨fun a U g mk q => by obtain ⟨q0, q1, qP, qK, qD, qZ⟩ := q; exact ⟨q0, q1, qP, va_K.moved (u := U) (U := U.calling g mk a) (Vm.Alike.refl U.vm) qK, qD, qZ.same rfl⟩, va_recv hKc hPc (ci := 11) (q0 := 0) rfl rfl, fun U hU hW => ⟨rfl, by rw [hU], by rw [hU]; exact hPc, va_K.moved hW.alike hKc, hDc.weaken (fun _ _ _ _ => trivial), hZ.call hS hFc hU hW⟩⟩ rfl rfl hl.1 rfl (lv_room (Nat.le_of_ble_eq_true rfl)) dX6_addRun_2 ⟨(Nat.le_of_ble_eq_true rfl), (Nat.le_of_ble_eq_true rfl)⟩) hS (fun q _ h => hFc q h) hFc (fun q _ h => hFc q h) (fun E ce q9 u t H1 locs ht hvm hw hB hz1 hk1 hS hce hcv hcl => ?_) (fun u r_106 t H1 locs ht hvm hw hB hz1 hk1 hS => hw.elim)
  obtain ⟨rfl, hP1, hK1, hD1⟩ := hB
  rw [ht] at hP1
  have hK1 := va_K.moved hvm.symm hK1
  obtain ⟨hP, hD⟩ := va_join (wr := []) (w1 := [(h0, .inr (11, [.ref a, v1, v2, v3, v4, v5, v6, v7])), (a, .inr (4, [w0, w1, .int 0]))]) hP hD [0, 1] [] rfl rfl (by decide) (by decide) hk1 hFc hP1 hD1
  have hK := (hK.sub (tys' := []) [] rfl).app hK1
  generalize H1 = H at hP hS hce ⊢
  have hP : va_P (dC, dI) vwCl [(h0, .inr (11, [.ref a, v1, v2, v3, v4, v5, v6, v7])), (a, .inr (4, [w0, w1, .int 0]))] H := hP
  have hD : va_D A [(h0, .inr (11, [.ref a, v1, v2, v3, v4, v5, v6, v7])), (a, .inr (4, [w0, w1, .int 0]))] := hD
  have hK : va_K (dC, dI) vwCl [] s := hK
  have hP9 := hP.sub (ws' := [(h0, .inr (11, [.ref a, v1, v2, v3, v4, v5, v6, v7])), (a, .inr (4, [w0, w1, .int 0]))]) [0, 1] rfl
  have hD9 := hD.sub (ws' := [(h0, .inr (11, [.ref a, v1, v2, v3, v4, v5, v6, v7])), (a, .inr (4, [w0, w1, .int 0]))]) [0, 1] (by decide) rfl
  have hK9 := hK.sub (tys' := []) [] rfl
  exact vx_out (fun x hx => (htab x hx).elim) hlocks hce hcv hcl (fun t ht ha => ⟨(), trivial, ⟨rfl, by rw [ht]; exact hP9, va_K.moved ha hK9, hD9⟩, hS.F ht⟩) hS.2.2 (Nat.le_of_ble_eq_true rfl) (Nat.le_of_ble_eq_true rfl)
set_option maxHeartbeats 4000000 in
set_option maxRecDepth 100000 in
theorem x_getFelt (l : Launch) (hl9 : l.stackTraces = false) (dC : Nat → ClassId) (dI : Nat → Nat → Nat) (sz : Nat) (ed : Nat) (h0 : Nat) (a : Nat) (v1 : Value) (v2 : Value) (v3 : Value) (v4 : Value) (v5 : Value) (v6 : Value) (v7 : Value) (w0 : Value) (w1 : Value) (p0 : Int32) (p1 : Int32) : vx_Met l yX6_getFelt (pw_ws yX6_getFelt cX6_getFelt 4 (some .int)) ({ frames := 7, cells := 1, slots := 6, locals := 121 } : Room) (va_Pc [.ref h0, .int p0, .int p1] (fun U => U.heap.size = sz ∧ va_P (dC, dI) vwCl [(h0, .inr (11, [.ref a, v1, v2, v3, v4, v5, v6, v7])), (a, .inr (4, [w0, w1, .int 0]))] U.heap ∧ va_K (dC, dI) vwCl [] U ∧ va_D (fun _ => True) [(h0, .inr (11, [.ref a, v1, v2, v3, v4, v5, v6, v7])), (a, .inr (4, [w0, w1, .int 0]))] ∧ pz ed (va_A [(h0, .inr (11, [.ref a, v1, v2, v3, v4, v5, v6, v7])), (a, .inr (4, [w0, w1, .int 0]))] sz) U U.heap)) (va_Qi (fun (_ : Int32) (_ : Unit) => False) (fun (_ : Unit) (_ : State) => True) (va_A [(h0, .inr (11, [.ref a, v1, v2, v3, v4, v5, v6, v7])), (a, .inr (4, [w0, w1, .int 0]))] sz)) (vx_X px_T (fun (E : String) (_ : Unit) (t : State) => E = "java/lang/IndexOutOfBoundsException" ∧ va_P (dC, dI) vwCl [(h0, .inr (11, [.ref a, v1, v2, v3, v4, v5, v6, v7])), (a, .inr (4, [w0, w1, .int 0]))] t.heap ∧ va_K (dC, dI) vwCl [] t ∧ va_D (va_A [(h0, .inr (11, [.ref a, v1, v2, v3, v4, v5, v6, v7])), (a, .inr (4, [w0, w1, .int 0]))] sz) [(h0, .inr (11, [.ref a, v1, v2, v3, v4, v5, v6, v7])), (a, .inr (4, [w0, w1, .int 0]))]) (va_A [(h0, .inr (11, [.ref a, v1, v2, v3, v4, v5, v6, v7])), (a, .inr (4, [w0, w1, .int 0]))] sz)) 1 6 (va_A [(h0, .inr (11, [.ref a, v1, v2, v3, v4, v5, v6, v7])), (a, .inr (4, [w0, w1, .int 0]))] sz) := by
  refine vx_ofW (cc := cX6_getFelt) (maxL := 4) (ret := (some .int)) (by decide) rfl ?_
  intro p e s m args below meth c s₁ B hml htab hv
  obtain ⟨rfl, hsz, hP, hK, hD0, hZ⟩ := hv
  have hx := B.exec
  have hb := B.bytes
  have hr := B.returns
  have hts0 := atoms_spec (ws := (pw_ws yX6_getFelt cX6_getFelt 4 (some .int))) B.pre
  have hts : ∀ w ∈ pw_all, w.before _ s = true := fun w h => hts0 w (List.mem_cons_of_mem _ h)
  have hown : s.vm.findClass RX6 = some m.cls := findClass_of_methodNamed B.named
  have hlocks := B.notSynchronized
  subst hsz
  have hD := hD0.self (sz := s.heap.size)
  generalize hAe : va_A [(h0, .inr (11, [.ref a, v1, v2, v3, v4, v5, v6, v7])), (a, .inr (4, [w0, w1, .int 0]))] s.heap.size = A at hD hZ ⊢
  have hA : ∀ q : Nat, s.heap.size ≤ q → A q := fun q h => by rw [← hAe]; exact Or.inr h
  have hS : va_S A s.heap s.heap [] := va_S.rf
  have hP : va_P (dC, dI) vwCl [(h0, .inr (11, [.ref a, v1, v2, v3, v4, v5, v6, v7])), (a, .inr (4, [w0, w1, .int 0]))] s.heap := hP
  have hl := lv_entry ([.ref h0, .int p0, .int p1]) (n := 4) (Nat.le_of_ble_eq_true rfl)
  rw [lg_entry_eq]
  generalize (lg_sl ([.ref h0, .int p0, .int p1]) ++ List.replicate (4 - (lg_sl ([.ref h0, .int p0, .int p1])).length) Slot.unset).toArray = ls at hl ⊢
  have hl : lv_has ls 4 [(0, .ref h0), (1, .int p0), (2, .int p1)] := hl
  skip
  refine lv_aload_n hx hb dX6_getFelt_0 rfl (lv_at hl 0 rfl) ?_
  refine lv_iload_n hx hb dX6_getFelt_1 rfl (lv_at hl 1 rfl) ?_
  have hPc := hP.sub (ws' := [(h0, .inr (11, [.ref a, v1, v2, v3, v4, v5, v6, v7])), (a, .inr (4, [w0, w1, .int 0]))]) [0, 1] rfl
  have hDc := hD.sub (ws' := [(h0, .inr (11, [.ref a, v1, v2, v3, v4, v5, v6, v7])), (a, .inr (4, [w0, w1, .int 0]))]) [0, 1] (by decide) rfl
  have hKc := hK.sub (tys' := []) [] rfl
  have hFc := va_free (wc := [(h0, .inr (11, [.ref a, v1, v2, v3, v4, v5, v6, v7])), (a, .inr (4, [w0, w1, .int 0]))]) hD hS hA [0, 1] rfl
  refine vx_callr (vx_runV (As := [.int p0]) (rest := []) ⟨hx, hb, hml, hown, hts⟩ (m_structureAt l hl9 dC dI s.heap.size ed h0 a v1 v2 v3 v4 v5 v6 v7 w0 w1 p0) (cwV 1 hts (pw_V q508 q510 q7 q43 q511) rfl rfl rfl (by decide +kernel) ⟨(Nat.le_of_ble_eq_true rfl), (Nat.le_of_ble_eq_true rfl)⟩) ⟨fun a U g mk q => by obtain ⟨q0, q1, qP, qK, qD, qZ⟩ := q; exact ⟨q0, q1, qP, va_K.moved (u := U) (U := U.calling g mk a) (Vm.Alike.refl U.vm) qK, qD, qZ.same rfl⟩, va_recv hKc hPc (ci := 11) (q0 := 0) rfl rfl, fun U hU hW => ⟨rfl, by rw [hU], by rw [hU]; exact hPc, va_K.moved hW.alike hKc, hDc.weaken (fun _ _ _ _ => trivial), hZ.call hS hFc hU hW⟩⟩ rfl rfl hl.1 rfl (lv_room (Nat.le_of_ble_eq_true rfl)) dX6_getFelt_2 ⟨(Nat.le_of_ble_eq_true rfl), (Nat.le_of_ble_eq_true rfl)⟩) hS (fun q _ h => hFc q h) hFc (fun q _ h => hFc q h) (fun E ce q9 u t H1 locs ht hvm hw hB hz1 hk1 hS hce hcv hcl => ?_) (fun u r_107 t H1 locs ht hvm hw hB hz1 hk1 hS => hw.elim)
  obtain ⟨rfl, hP1, hK1, hD1⟩ := hB
  rw [ht] at hP1
  have hK1 := va_K.moved hvm.symm hK1
  obtain ⟨hP, hD⟩ := va_join (wr := []) (w1 := [(h0, .inr (11, [.ref a, v1, v2, v3, v4, v5, v6, v7])), (a, .inr (4, [w0, w1, .int 0]))]) hP hD [0, 1] [] rfl rfl (by decide) (by decide) hk1 hFc hP1 hD1
  have hK := (hK.sub (tys' := []) [] rfl).app hK1
  generalize H1 = H at hP hS hce ⊢
  have hP : va_P (dC, dI) vwCl [(h0, .inr (11, [.ref a, v1, v2, v3, v4, v5, v6, v7])), (a, .inr (4, [w0, w1, .int 0]))] H := hP
  have hD : va_D A [(h0, .inr (11, [.ref a, v1, v2, v3, v4, v5, v6, v7])), (a, .inr (4, [w0, w1, .int 0]))] := hD
  have hK : va_K (dC, dI) vwCl [] s := hK
  have hP9 := hP.sub (ws' := [(h0, .inr (11, [.ref a, v1, v2, v3, v4, v5, v6, v7])), (a, .inr (4, [w0, w1, .int 0]))]) [0, 1] rfl
  have hD9 := hD.sub (ws' := [(h0, .inr (11, [.ref a, v1, v2, v3, v4, v5, v6, v7])), (a, .inr (4, [w0, w1, .int 0]))]) [0, 1] (by decide) rfl
  have hK9 := hK.sub (tys' := []) [] rfl
  exact vx_out (fun x hx => (htab x hx).elim) hlocks hce hcv hcl (fun t ht ha => ⟨(), trivial, ⟨rfl, by rw [ht]; exact hP9, va_K.moved ha hK9, hD9⟩, hS.F ht⟩) hS.2.2 (Nat.le_of_ble_eq_true rfl) (Nat.le_of_ble_eq_true rfl)
set_option maxHeartbeats 4000000 in
set_option maxRecDepth 100000 in
theorem x_sweep (l : Launch) (hl9 : l.stackTraces = false) (dC : Nat → ClassId) (dI : Nat → Nat → Nat) (sz : Nat) (ed : Nat) (h0 : Nat) (a : Nat) (v1 : Value) (v2 : Value) (v3 : Value) (v4 : Value) (v5 : Value) (v6 : Value) (v7 : Value) (w0 : Value) (w1 : Value) (p0 : Int32) (p1 : Int32) (p2 : Int32) (p3 : Int32) : vx_Met l yX6_sweep (pw_ws yX6_sweep cX6_sweep 6 (some .int)) ({ frames := 7, cells := 1, slots := 6, locals := 121 } : Room) (va_Pc [.ref h0, .int p0, .int p1, .int p2, .int p3] (fun U => U.heap.size = sz ∧ va_P (dC, dI) vwCl [(h0, .inr (11, [.ref a, v1, v2, v3, v4, v5, v6, v7])), (a, .inr (4, [w0, w1, .int 0]))] U.heap ∧ va_K (dC, dI) vwCl [] U ∧ va_D (fun _ => True) [(h0, .inr (11, [.ref a, v1, v2, v3, v4, v5, v6, v7])), (a, .inr (4, [w0, w1, .int 0]))] ∧ pz ed (va_A [(h0, .inr (11, [.ref a, v1, v2, v3, v4, v5, v6, v7])), (a, .inr (4, [w0, w1, .int 0]))] sz) U U.heap)) (va_Qi (fun (_ : Int32) (_ : Unit) => False) (fun (_ : Unit) (_ : State) => True) (va_A [(h0, .inr (11, [.ref a, v1, v2, v3, v4, v5, v6, v7])), (a, .inr (4, [w0, w1, .int 0]))] sz)) (vx_X px_T (fun (E : String) (_ : Unit) (t : State) => E = "java/lang/IndexOutOfBoundsException" ∧ va_P (dC, dI) vwCl [(h0, .inr (11, [.ref a, v1, v2, v3, v4, v5, v6, v7])), (a, .inr (4, [w0, w1, .int 0]))] t.heap ∧ va_K (dC, dI) vwCl [] t ∧ va_D (va_A [(h0, .inr (11, [.ref a, v1, v2, v3, v4, v5, v6, v7])), (a, .inr (4, [w0, w1, .int 0]))] sz) [(h0, .inr (11, [.ref a, v1, v2, v3, v4, v5, v6, v7])), (a, .inr (4, [w0, w1, .int 0]))]) (va_A [(h0, .inr (11, [.ref a, v1, v2, v3, v4, v5, v6, v7])), (a, .inr (4, [w0, w1, .int 0]))] sz)) 1 6 (va_A [(h0, .inr (11, [.ref a, v1, v2, v3, v4, v5, v6, v7])), (a, .inr (4, [w0, w1, .int 0]))] sz) := by
  refine vx_ofW (cc := cX6_sweep) (maxL := 6) (ret := (some .int)) (by decide) rfl ?_
  intro p e s m args below meth c s₁ B hml htab hv
  obtain ⟨rfl, hsz, hP, hK, hD0, hZ⟩ := hv
  have hx := B.exec
  have hb := B.bytes
  have hr := B.returns
  have hts0 := atoms_spec (ws := (pw_ws yX6_sweep cX6_sweep 6 (some .int))) B.pre
  have hts : ∀ w ∈ pw_all, w.before _ s = true := fun w h => hts0 w (List.mem_cons_of_mem _ h)
  have hown : s.vm.findClass RX6 = some m.cls := findClass_of_methodNamed B.named
  have hlocks := B.notSynchronized
  subst hsz
  have hD := hD0.self (sz := s.heap.size)
  generalize hAe : va_A [(h0, .inr (11, [.ref a, v1, v2, v3, v4, v5, v6, v7])), (a, .inr (4, [w0, w1, .int 0]))] s.heap.size = A at hD hZ ⊢
  have hA : ∀ q : Nat, s.heap.size ≤ q → A q := fun q h => by rw [← hAe]; exact Or.inr h
  have hS : va_S A s.heap s.heap [] := va_S.rf
  have hP : va_P (dC, dI) vwCl [(h0, .inr (11, [.ref a, v1, v2, v3, v4, v5, v6, v7])), (a, .inr (4, [w0, w1, .int 0]))] s.heap := hP
  have hl := lv_entry ([.ref h0, .int p0, .int p1, .int p2, .int p3]) (n := 6) (Nat.le_of_ble_eq_true rfl)
  rw [lg_entry_eq]
  generalize (lg_sl ([.ref h0, .int p0, .int p1, .int p2, .int p3]) ++ List.replicate (6 - (lg_sl ([.ref h0, .int p0, .int p1, .int p2, .int p3])).length) Slot.unset).toArray = ls at hl ⊢
  have hl : lv_has ls 6 [(0, .ref h0), (1, .int p0), (2, .int p1), (3, .int p2), (4, .int p3)] := hl
  skip
  refine lv_aload_n hx hb dX6_sweep_0 rfl (lv_at hl 0 rfl) ?_
  refine lv_iload_n hx hb dX6_sweep_1 rfl (lv_at hl 1 rfl) ?_
  have hPc := hP.sub (ws' := [(h0, .inr (11, [.ref a, v1, v2, v3, v4, v5, v6, v7])), (a, .inr (4, [w0, w1, .int 0]))]) [0, 1] rfl
  have hDc := hD.sub (ws' := [(h0, .inr (11, [.ref a, v1, v2, v3, v4, v5, v6, v7])), (a, .inr (4, [w0, w1, .int 0]))]) [0, 1] (by decide) rfl
  have hKc := hK.sub (tys' := []) [] rfl
  have hFc := va_free (wc := [(h0, .inr (11, [.ref a, v1, v2, v3, v4, v5, v6, v7])), (a, .inr (4, [w0, w1, .int 0]))]) hD hS hA [0, 1] rfl
  refine vx_callr (vx_runV (As := [.int p0]) (rest := []) ⟨hx, hb, hml, hown, hts⟩ (m_structureAt l hl9 dC dI s.heap.size ed h0 a v1 v2 v3 v4 v5 v6 v7 w0 w1 p0) (cwV 1 hts (pw_V q508 q510 q7 q43 q511) rfl rfl rfl (by decide +kernel) ⟨(Nat.le_of_ble_eq_true rfl), (Nat.le_of_ble_eq_true rfl)⟩) ⟨fun a U g mk q => by obtain ⟨q0, q1, qP, qK, qD, qZ⟩ := q; exact ⟨q0, q1, qP, va_K.moved (u := U) (U := U.calling g mk a) (Vm.Alike.refl U.vm) qK, qD, qZ.same rfl⟩, va_recv hKc hPc (ci := 11) (q0 := 0) rfl rfl, fun U hU hW => ⟨rfl, by rw [hU], by rw [hU]; exact hPc, va_K.moved hW.alike hKc, hDc.weaken (fun _ _ _ _ => trivial), hZ.call hS hFc hU hW⟩⟩ rfl rfl hl.1 rfl (lv_room (Nat.le_of_ble_eq_true rfl)) dX6_sweep_2 ⟨(Nat.le_of_ble_eq_true rfl), (Nat.le_of_ble_eq_true rfl)⟩) hS (fun q _ h => hFc q h) hFc (fun q _ h => hFc q h) (fun E ce q9 u t H1 locs ht hvm hw hB hz1 hk1 hS hce hcv hcl => ?_) (fun u r_108 t H1 locs ht hvm hw hB hz1 hk1 hS => hw.elim)
  obtain ⟨rfl, hP1, hK1, hD1⟩ := hB
  rw [ht] at hP1
  have hK1 := va_K.moved hvm.symm hK1
  obtain ⟨hP, hD⟩ := va_join (wr := []) (w1 := [(h0, .inr (11, [.ref a, v1, v2, v3, v4, v5, v6, v7])), (a, .inr (4, [w0, w1, .int 0]))]) hP hD [0, 1] [] rfl rfl (by decide) (by decide) hk1 hFc hP1 hD1
  have hK := (hK.sub (tys' := []) [] rfl).app hK1
  generalize H1 = H at hP hS hce ⊢
  have hP : va_P (dC, dI) vwCl [(h0, .inr (11, [.ref a, v1, v2, v3, v4, v5, v6, v7])), (a, .inr (4, [w0, w1, .int 0]))] H := hP
  have hD : va_D A [(h0, .inr (11, [.ref a, v1, v2, v3, v4, v5, v6, v7])), (a, .inr (4, [w0, w1, .int 0]))] := hD
  have hK : va_K (dC, dI) vwCl [] s := hK
  have hP9 := hP.sub (ws' := [(h0, .inr (11, [.ref a, v1, v2, v3, v4, v5, v6, v7])), (a, .inr (4, [w0, w1, .int 0]))]) [0, 1] rfl
  have hD9 := hD.sub (ws' := [(h0, .inr (11, [.ref a, v1, v2, v3, v4, v5, v6, v7])), (a, .inr (4, [w0, w1, .int 0]))]) [0, 1] (by decide) rfl
  have hK9 := hK.sub (tys' := []) [] rfl
  exact vx_out (fun x hx => (htab x hx).elim) hlocks hce hcv hcl (fun t ht ha => ⟨(), trivial, ⟨rfl, by rw [ht]; exact hP9, va_K.moved ha hK9, hD9⟩, hS.F ht⟩) hS.2.2 (Nat.le_of_ble_eq_true rfl) (Nat.le_of_ble_eq_true rfl)
set_option maxHeartbeats 4000000 in
set_option maxRecDepth 100000 in
theorem x_shock (l : Launch) (hl9 : l.stackTraces = false) (dC : Nat → ClassId) (dI : Nat → Nat → Nat) (sz : Nat) (ed : Nat) (h0 : Nat) (a : Nat) (v1 : Value) (v2 : Value) (v3 : Value) (v4 : Value) (v5 : Value) (v6 : Value) (v7 : Value) (w0 : Value) (w1 : Value) (p0 : Int32) : vx_Met l yX6_shock (pw_ws yX6_shock cX6_shock 5 (some .int)) ({ frames := 7, cells := 1, slots := 6, locals := 121 } : Room) (va_Pc [.ref h0, .int p0] (fun U => U.heap.size = sz ∧ va_P (dC, dI) vwCl [(h0, .inr (11, [.ref a, v1, v2, v3, v4, v5, v6, v7])), (a, .inr (4, [w0, w1, .int 0]))] U.heap ∧ va_K (dC, dI) vwCl [] U ∧ va_D (fun _ => True) [(h0, .inr (11, [.ref a, v1, v2, v3, v4, v5, v6, v7])), (a, .inr (4, [w0, w1, .int 0]))] ∧ pz ed (va_A [(h0, .inr (11, [.ref a, v1, v2, v3, v4, v5, v6, v7])), (a, .inr (4, [w0, w1, .int 0]))] sz) U U.heap)) (va_Qi (fun (_ : Int32) (_ : Unit) => False) (fun (_ : Unit) (_ : State) => True) (va_A [(h0, .inr (11, [.ref a, v1, v2, v3, v4, v5, v6, v7])), (a, .inr (4, [w0, w1, .int 0]))] sz)) (vx_X px_T (fun (E : String) (_ : Unit) (t : State) => E = "java/lang/IndexOutOfBoundsException" ∧ va_P (dC, dI) vwCl [(h0, .inr (11, [.ref a, v1, v2, v3, v4, v5, v6, v7])), (a, .inr (4, [w0, w1, .int 0]))] t.heap ∧ va_K (dC, dI) vwCl [] t ∧ va_D (va_A [(h0, .inr (11, [.ref a, v1, v2, v3, v4, v5, v6, v7])), (a, .inr (4, [w0, w1, .int 0]))] sz) [(h0, .inr (11, [.ref a, v1, v2, v3, v4, v5, v6, v7])), (a, .inr (4, [w0, w1, .int 0]))]) (va_A [(h0, .inr (11, [.ref a, v1, v2, v3, v4, v5, v6, v7])), (a, .inr (4, [w0, w1, .int 0]))] sz)) 1 6 (va_A [(h0, .inr (11, [.ref a, v1, v2, v3, v4, v5, v6, v7])), (a, .inr (4, [w0, w1, .int 0]))] sz) := by
  refine vx_ofW (cc := cX6_shock) (maxL := 5) (ret := (some .int)) (by decide) rfl ?_
  intro p e s m args below meth c s₁ B hml htab hv
  obtain ⟨rfl, hsz, hP, hK, hD0, hZ⟩ := hv
  have hx := B.exec
  have hb := B.bytes
  have hr := B.returns
  have hts0 := atoms_spec (ws := (pw_ws yX6_shock cX6_shock 5 (some .int))) B.pre
  have hts : ∀ w ∈ pw_all, w.before _ s = true := fun w h => hts0 w (List.mem_cons_of_mem _ h)
  have hown : s.vm.findClass RX6 = some m.cls := findClass_of_methodNamed B.named
  have hlocks := B.notSynchronized
  subst hsz
  have hD := hD0.self (sz := s.heap.size)
  generalize hAe : va_A [(h0, .inr (11, [.ref a, v1, v2, v3, v4, v5, v6, v7])), (a, .inr (4, [w0, w1, .int 0]))] s.heap.size = A at hD hZ ⊢
  have hA : ∀ q : Nat, s.heap.size ≤ q → A q := fun q h => by rw [← hAe]; exact Or.inr h
  have hS : va_S A s.heap s.heap [] := va_S.rf
  have hP : va_P (dC, dI) vwCl [(h0, .inr (11, [.ref a, v1, v2, v3, v4, v5, v6, v7])), (a, .inr (4, [w0, w1, .int 0]))] s.heap := hP
  have hl := lv_entry ([.ref h0, .int p0]) (n := 5) (Nat.le_of_ble_eq_true rfl)
  rw [lg_entry_eq]
  generalize (lg_sl ([.ref h0, .int p0]) ++ List.replicate (5 - (lg_sl ([.ref h0, .int p0])).length) Slot.unset).toArray = ls at hl ⊢
  have hl : lv_has ls 5 [(0, .ref h0), (1, .int p0)] := hl
  skip
  refine lv_aload_n hx hb dX6_shock_0 rfl (lv_at hl 0 rfl) ?_
  refine lv_iload_n hx hb dX6_shock_1 rfl (lv_at hl 1 rfl) ?_
  have hPc := hP.sub (ws' := [(h0, .inr (11, [.ref a, v1, v2, v3, v4, v5, v6, v7])), (a, .inr (4, [w0, w1, .int 0]))]) [0, 1] rfl
  have hDc := hD.sub (ws' := [(h0, .inr (11, [.ref a, v1, v2, v3, v4, v5, v6, v7])), (a, .inr (4, [w0, w1, .int 0]))]) [0, 1] (by decide) rfl
  have hKc := hK.sub (tys' := []) [] rfl
  have hFc := va_free (wc := [(h0, .inr (11, [.ref a, v1, v2, v3, v4, v5, v6, v7])), (a, .inr (4, [w0, w1, .int 0]))]) hD hS hA [0, 1] rfl
  refine vx_callr (vx_runV (As := [.int p0]) (rest := []) ⟨hx, hb, hml, hown, hts⟩ (m_structureAt l hl9 dC dI s.heap.size ed h0 a v1 v2 v3 v4 v5 v6 v7 w0 w1 p0) (cwV 1 hts (pw_V q508 q510 q7 q43 q511) rfl rfl rfl (by decide +kernel) ⟨(Nat.le_of_ble_eq_true rfl), (Nat.le_of_ble_eq_true rfl)⟩) ⟨fun a U g mk q => by obtain ⟨q0, q1, qP, qK, qD, qZ⟩ := q; exact ⟨q0, q1, qP, va_K.moved (u := U) (U := U.calling g mk a) (Vm.Alike.refl U.vm) qK, qD, qZ.same rfl⟩, va_recv hKc hPc (ci := 11) (q0 := 0) rfl rfl, fun U hU hW => ⟨rfl, by rw [hU], by rw [hU]; exact hPc, va_K.moved hW.alike hKc, hDc.weaken (fun _ _ _ _ => trivial), hZ.call hS hFc hU hW⟩⟩ rfl rfl hl.1 rfl (lv_room (Nat.le_of_ble_eq_true rfl)) dX6_shock_2 ⟨(Nat.le_of_ble_eq_true rfl), (Nat.le_of_ble_eq_true rfl)⟩) hS (fun q _ h => hFc q h) hFc (fun q _ h => hFc q h) (fun E ce q9 u t H1 locs ht hvm hw hB hz1 hk1 hS hce hcv hcl => ?_) (fun u r_109 t H1 locs ht hvm hw hB hz1 hk1 hS => hw.elim)
  obtain ⟨rfl, hP1, hK1, hD1⟩ := hB
  rw [ht] at hP1
  have hK1 := va_K.moved hvm.symm hK1
  obtain ⟨hP, hD⟩ := va_join (wr := []) (w1 := [(h0, .inr (11, [.ref a, v1, v2, v3, v4, v5, v6, v7])), (a, .inr (4, [w0, w1, .int 0]))]) hP hD [0, 1] [] rfl rfl (by decide) (by decide) hk1 hFc hP1 hD1
  have hK := (hK.sub (tys' := []) [] rfl).app hK1
  generalize H1 = H at hP hS hce ⊢
  have hP : va_P (dC, dI) vwCl [(h0, .inr (11, [.ref a, v1, v2, v3, v4, v5, v6, v7])), (a, .inr (4, [w0, w1, .int 0]))] H := hP
  have hD : va_D A [(h0, .inr (11, [.ref a, v1, v2, v3, v4, v5, v6, v7])), (a, .inr (4, [w0, w1, .int 0]))] := hD
  have hK : va_K (dC, dI) vwCl [] s := hK
  have hP9 := hP.sub (ws' := [(h0, .inr (11, [.ref a, v1, v2, v3, v4, v5, v6, v7])), (a, .inr (4, [w0, w1, .int 0]))]) [0, 1] rfl
  have hD9 := hD.sub (ws' := [(h0, .inr (11, [.ref a, v1, v2, v3, v4, v5, v6, v7])), (a, .inr (4, [w0, w1, .int 0]))]) [0, 1] (by decide) rfl
  have hK9 := hK.sub (tys' := []) [] rfl
  exact vx_out (fun x hx => (htab x hx).elim) hlocks hce hcv hcl (fun t ht ha => ⟨(), trivial, ⟨rfl, by rw [ht]; exact hP9, va_K.moved ha hK9, hD9⟩, hS.F ht⟩) hS.2.2 (Nat.le_of_ble_eq_true rfl) (Nat.le_of_ble_eq_true rfl)
set_option maxHeartbeats 4000000 in
set_option maxRecDepth 100000 in
theorem x_setLife (l : Launch) (hl9 : l.stackTraces = false) (dC : Nat → ClassId) (dI : Nat → Nat → Nat) (sz : Nat) (ed : Nat) (h0 : Nat) (a : Nat) (v1 : Value) (v2 : Value) (v3 : Value) (v4 : Value) (v5 : Value) (v6 : Value) (v7 : Value) (w0 : Value) (w1 : Value) (p0 : Int32) (p1 : Int32) : vx_Met l yX6_setLife (pw_ws yX6_setLife cX6_setLife 5 (some .int)) ({ frames := 7, cells := 1, slots := 6, locals := 121 } : Room) (va_Pc [.ref h0, .int p0, .int p1] (fun U => U.heap.size = sz ∧ va_P (dC, dI) vwCl [(h0, .inr (11, [.ref a, v1, v2, v3, v4, v5, v6, v7])), (a, .inr (4, [w0, w1, .int 0]))] U.heap ∧ va_K (dC, dI) vwCl [] U ∧ va_D (fun _ => True) [(h0, .inr (11, [.ref a, v1, v2, v3, v4, v5, v6, v7])), (a, .inr (4, [w0, w1, .int 0]))] ∧ pz ed (va_A [(h0, .inr (11, [.ref a, v1, v2, v3, v4, v5, v6, v7])), (a, .inr (4, [w0, w1, .int 0]))] sz) U U.heap)) (va_Qi (fun (_ : Int32) (_ : Unit) => False) (fun (_ : Unit) (_ : State) => True) (va_A [(h0, .inr (11, [.ref a, v1, v2, v3, v4, v5, v6, v7])), (a, .inr (4, [w0, w1, .int 0]))] sz)) (vx_X px_T (fun (E : String) (_ : Unit) (t : State) => E = "java/lang/IndexOutOfBoundsException" ∧ va_P (dC, dI) vwCl [(h0, .inr (11, [.ref a, v1, v2, v3, v4, v5, v6, v7])), (a, .inr (4, [w0, w1, .int 0]))] t.heap ∧ va_K (dC, dI) vwCl [] t ∧ va_D (va_A [(h0, .inr (11, [.ref a, v1, v2, v3, v4, v5, v6, v7])), (a, .inr (4, [w0, w1, .int 0]))] sz) [(h0, .inr (11, [.ref a, v1, v2, v3, v4, v5, v6, v7])), (a, .inr (4, [w0, w1, .int 0]))]) (va_A [(h0, .inr (11, [.ref a, v1, v2, v3, v4, v5, v6, v7])), (a, .inr (4, [w0, w1, .int 0]))] sz)) 1 6 (va_A [(h0, .inr (11, [.ref a, v1, v2, v3, v4, v5, v6, v7])), (a, .inr (4, [w0, w1, .int 0]))] sz) := by
  refine vx_ofW (cc := cX6_setLife) (maxL := 5) (ret := (some .int)) (by decide) rfl ?_
  intro p e s m args below meth c s₁ B hml htab hv
  obtain ⟨rfl, hsz, hP, hK, hD0, hZ⟩ := hv
  have hx := B.exec
  have hb := B.bytes
  have hr := B.returns
  have hts0 := atoms_spec (ws := (pw_ws yX6_setLife cX6_setLife 5 (some .int))) B.pre
  have hts : ∀ w ∈ pw_all, w.before _ s = true := fun w h => hts0 w (List.mem_cons_of_mem _ h)
  have hown : s.vm.findClass RX6 = some m.cls := findClass_of_methodNamed B.named
  have hlocks := B.notSynchronized
  subst hsz
  have hD := hD0.self (sz := s.heap.size)
  generalize hAe : va_A [(h0, .inr (11, [.ref a, v1, v2, v3, v4, v5, v6, v7])), (a, .inr (4, [w0, w1, .int 0]))] s.heap.size = A at hD hZ ⊢
  have hA : ∀ q : Nat, s.heap.size ≤ q → A q := fun q h => by rw [← hAe]; exact Or.inr h
  have hS : va_S A s.heap s.heap [] := va_S.rf
  have hP : va_P (dC, dI) vwCl [(h0, .inr (11, [.ref a, v1, v2, v3, v4, v5, v6, v7])), (a, .inr (4, [w0, w1, .int 0]))] s.heap := hP
  have hl := lv_entry ([.ref h0, .int p0, .int p1]) (n := 5) (Nat.le_of_ble_eq_true rfl)
  rw [lg_entry_eq]
  generalize (lg_sl ([.ref h0, .int p0, .int p1]) ++ List.replicate (5 - (lg_sl ([.ref h0, .int p0, .int p1])).length) Slot.unset).toArray = ls at hl ⊢
  have hl : lv_has ls 5 [(0, .ref h0), (1, .int p0), (2, .int p1)] := hl
  skip
  refine lv_aload_n hx hb dX6_setLife_0 rfl (lv_at hl 0 rfl) ?_
  refine lv_iload_n hx hb dX6_setLife_1 rfl (lv_at hl 1 rfl) ?_
  have hPc := hP.sub (ws' := [(h0, .inr (11, [.ref a, v1, v2, v3, v4, v5, v6, v7])), (a, .inr (4, [w0, w1, .int 0]))]) [0, 1] rfl
  have hDc := hD.sub (ws' := [(h0, .inr (11, [.ref a, v1, v2, v3, v4, v5, v6, v7])), (a, .inr (4, [w0, w1, .int 0]))]) [0, 1] (by decide) rfl
  have hKc := hK.sub (tys' := []) [] rfl
  have hFc := va_free (wc := [(h0, .inr (11, [.ref a, v1, v2, v3, v4, v5, v6, v7])), (a, .inr (4, [w0, w1, .int 0]))]) hD hS hA [0, 1] rfl
  refine vx_callr (vx_runV (As := [.int p0]) (rest := []) ⟨hx, hb, hml, hown, hts⟩ (m_structureAt l hl9 dC dI s.heap.size ed h0 a v1 v2 v3 v4 v5 v6 v7 w0 w1 p0) (cwV 1 hts (pw_V q508 q510 q7 q43 q511) rfl rfl rfl (by decide +kernel) ⟨(Nat.le_of_ble_eq_true rfl), (Nat.le_of_ble_eq_true rfl)⟩) ⟨fun a U g mk q => by obtain ⟨q0, q1, qP, qK, qD, qZ⟩ := q; exact ⟨q0, q1, qP, va_K.moved (u := U) (U := U.calling g mk a) (Vm.Alike.refl U.vm) qK, qD, qZ.same rfl⟩, va_recv hKc hPc (ci := 11) (q0 := 0) rfl rfl, fun U hU hW => ⟨rfl, by rw [hU], by rw [hU]; exact hPc, va_K.moved hW.alike hKc, hDc.weaken (fun _ _ _ _ => trivial), hZ.call hS hFc hU hW⟩⟩ rfl rfl hl.1 rfl (lv_room (Nat.le_of_ble_eq_true rfl)) dX6_setLife_2 ⟨(Nat.le_of_ble_eq_true rfl), (Nat.le_of_ble_eq_true rfl)⟩) hS (fun q _ h => hFc q h) hFc (fun q _ h => hFc q h) (fun E ce q9 u t H1 locs ht hvm hw hB hz1 hk1 hS hce hcv hcl => ?_) (fun u r_110 t H1 locs ht hvm hw hB hz1 hk1 hS => hw.elim)
  obtain ⟨rfl, hP1, hK1, hD1⟩ := hB
  rw [ht] at hP1
  have hK1 := va_K.moved hvm.symm hK1
  obtain ⟨hP, hD⟩ := va_join (wr := []) (w1 := [(h0, .inr (11, [.ref a, v1, v2, v3, v4, v5, v6, v7])), (a, .inr (4, [w0, w1, .int 0]))]) hP hD [0, 1] [] rfl rfl (by decide) (by decide) hk1 hFc hP1 hD1
  have hK := (hK.sub (tys' := []) [] rfl).app hK1
  generalize H1 = H at hP hS hce ⊢
  have hP : va_P (dC, dI) vwCl [(h0, .inr (11, [.ref a, v1, v2, v3, v4, v5, v6, v7])), (a, .inr (4, [w0, w1, .int 0]))] H := hP
  have hD : va_D A [(h0, .inr (11, [.ref a, v1, v2, v3, v4, v5, v6, v7])), (a, .inr (4, [w0, w1, .int 0]))] := hD
  have hK : va_K (dC, dI) vwCl [] s := hK
  have hP9 := hP.sub (ws' := [(h0, .inr (11, [.ref a, v1, v2, v3, v4, v5, v6, v7])), (a, .inr (4, [w0, w1, .int 0]))]) [0, 1] rfl
  have hD9 := hD.sub (ws' := [(h0, .inr (11, [.ref a, v1, v2, v3, v4, v5, v6, v7])), (a, .inr (4, [w0, w1, .int 0]))]) [0, 1] (by decide) rfl
  have hK9 := hK.sub (tys' := []) [] rfl
  exact vx_out (fun x hx => (htab x hx).elim) hlocks hce hcv hcl (fun t ht ha => ⟨(), trivial, ⟨rfl, by rw [ht]; exact hP9, va_K.moved ha hK9, hD9⟩, hS.F ht⟩) hS.2.2 (Nat.le_of_ble_eq_true rfl) (Nat.le_of_ble_eq_true rfl)
set_option maxHeartbeats 4000000 in
set_option maxRecDepth 100000 in
theorem x_getDamage (l : Launch) (hl9 : l.stackTraces = false) (dC : Nat → ClassId) (dI : Nat → Nat → Nat) (sz : Nat) (ed : Nat) (h0 : Nat) (a : Nat) (v1 : Value) (v2 : Value) (v3 : Value) (v4 : Value) (v5 : Value) (v6 : Value) (v7 : Value) (w0 : Value) (w1 : Value) (p0 : Int32) : vx_Met l yX6_getDamage (pw_ws yX6_getDamage cX6_getDamage 2 (some .long)) ({ frames := 7, cells := 1, slots := 6, locals := 121 } : Room) (va_Pc [.ref h0, .int p0] (fun U => U.heap.size = sz ∧ va_P (dC, dI) vwCl [(h0, .inr (11, [.ref a, v1, v2, v3, v4, v5, v6, v7])), (a, .inr (4, [w0, w1, .int 0]))] U.heap ∧ va_K (dC, dI) vwCl [] U ∧ va_D (fun _ => True) [(h0, .inr (11, [.ref a, v1, v2, v3, v4, v5, v6, v7])), (a, .inr (4, [w0, w1, .int 0]))] ∧ pz ed (va_A [(h0, .inr (11, [.ref a, v1, v2, v3, v4, v5, v6, v7])), (a, .inr (4, [w0, w1, .int 0]))] sz) U U.heap)) (va_Ql (fun (_ : Int64) (_ : Unit) => False) (fun (_ : Unit) (_ : State) => True) (va_A [(h0, .inr (11, [.ref a, v1, v2, v3, v4, v5, v6, v7])), (a, .inr (4, [w0, w1, .int 0]))] sz)) (vx_X px_T (fun (E : String) (_ : Unit) (t : State) => E = "java/lang/IndexOutOfBoundsException" ∧ va_P (dC, dI) vwCl [(h0, .inr (11, [.ref a, v1, v2, v3, v4, v5, v6, v7])), (a, .inr (4, [w0, w1, .int 0]))] t.heap ∧ va_K (dC, dI) vwCl [] t ∧ va_D (va_A [(h0, .inr (11, [.ref a, v1, v2, v3, v4, v5, v6, v7])), (a, .inr (4, [w0, w1, .int 0]))] sz) [(h0, .inr (11, [.ref a, v1, v2, v3, v4, v5, v6, v7])), (a, .inr (4, [w0, w1, .int 0]))]) (va_A [(h0, .inr (11, [.ref a, v1, v2, v3, v4, v5, v6, v7])), (a, .inr (4, [w0, w1, .int 0]))] sz)) 1 6 (va_A [(h0, .inr (11, [.ref a, v1, v2, v3, v4, v5, v6, v7])), (a, .inr (4, [w0, w1, .int 0]))] sz) := by
  refine vx_ofW (cc := cX6_getDamage) (maxL := 2) (ret := (some .long)) (by decide) rfl ?_
  intro p e s m args below meth c s₁ B hml htab hv
  obtain ⟨rfl, hsz, hP, hK, hD0, hZ⟩ := hv
  have hx := B.exec
  have hb := B.bytes
  have hr := B.returns
  have hts0 := atoms_spec (ws := (pw_ws yX6_getDamage cX6_getDamage 2 (some .long))) B.pre
  have hts : ∀ w ∈ pw_all, w.before _ s = true := fun w h => hts0 w (List.mem_cons_of_mem _ h)
  have hown : s.vm.findClass RX6 = some m.cls := findClass_of_methodNamed B.named
  have hlocks := B.notSynchronized
  subst hsz
  have hD := hD0.self (sz := s.heap.size)
  generalize hAe : va_A [(h0, .inr (11, [.ref a, v1, v2, v3, v4, v5, v6, v7])), (a, .inr (4, [w0, w1, .int 0]))] s.heap.size = A at hD hZ ⊢
  have hA : ∀ q : Nat, s.heap.size ≤ q → A q := fun q h => by rw [← hAe]; exact Or.inr h
  have hS : va_S A s.heap s.heap [] := va_S.rf
  have hP : va_P (dC, dI) vwCl [(h0, .inr (11, [.ref a, v1, v2, v3, v4, v5, v6, v7])), (a, .inr (4, [w0, w1, .int 0]))] s.heap := hP
  have hl := lv_entry ([.ref h0, .int p0]) (n := 2) (Nat.le_of_ble_eq_true rfl)
  rw [lg_entry_eq]
  generalize (lg_sl ([.ref h0, .int p0]) ++ List.replicate (2 - (lg_sl ([.ref h0, .int p0])).length) Slot.unset).toArray = ls at hl ⊢
  have hl : lv_has ls 2 [(0, .ref h0), (1, .int p0)] := hl
  skip
  refine lv_aload_n hx hb dX6_getDamage_0 rfl (lv_at hl 0 rfl) ?_
  refine lv_iload_n hx hb dX6_getDamage_1 rfl (lv_at hl 1 rfl) ?_
  have hPc := hP.sub (ws' := [(h0, .inr (11, [.ref a, v1, v2, v3, v4, v5, v6, v7])), (a, .inr (4, [w0, w1, .int 0]))]) [0, 1] rfl
  have hDc := hD.sub (ws' := [(h0, .inr (11, [.ref a, v1, v2, v3, v4, v5, v6, v7])), (a, .inr (4, [w0, w1, .int 0]))]) [0, 1] (by decide) rfl
  have hKc := hK.sub (tys' := []) [] rfl
  have hFc := va_free (wc := [(h0, .inr (11, [.ref a, v1, v2, v3, v4, v5, v6, v7])), (a, .inr (4, [w0, w1, .int 0]))]) hD hS hA [0, 1] rfl
  refine vx_callr (vx_runV (As := [.int p0]) (rest := []) ⟨hx, hb, hml, hown, hts⟩ (m_structureAt l hl9 dC dI s.heap.size ed h0 a v1 v2 v3 v4 v5 v6 v7 w0 w1 p0) (cwV 1 hts (pw_V q508 q510 q7 q43 q511) rfl rfl rfl (by decide +kernel) ⟨(Nat.le_of_ble_eq_true rfl), (Nat.le_of_ble_eq_true rfl)⟩) ⟨fun a U g mk q => by obtain ⟨q0, q1, qP, qK, qD, qZ⟩ := q; exact ⟨q0, q1, qP, va_K.moved (u := U) (U := U.calling g mk a) (Vm.Alike.refl U.vm) qK, qD, qZ.same rfl⟩, va_recv hKc hPc (ci := 11) (q0 := 0) rfl rfl, fun U hU hW => ⟨rfl, by rw [hU], by rw [hU]; exact hPc, va_K.moved hW.alike hKc, hDc.weaken (fun _ _ _ _ => trivial), hZ.call hS hFc hU hW⟩⟩ rfl rfl hl.1 rfl (lv_room (Nat.le_of_ble_eq_true rfl)) dX6_getDamage_2 ⟨(Nat.le_of_ble_eq_true rfl), (Nat.le_of_ble_eq_true rfl)⟩) hS (fun q _ h => hFc q h) hFc (fun q _ h => hFc q h) (fun E ce q9 u t H1 locs ht hvm hw hB hz1 hk1 hS hce hcv hcl => ?_) (fun u r_111 t H1 locs ht hvm hw hB hz1 hk1 hS => hw.elim)
  obtain ⟨rfl, hP1, hK1, hD1⟩ := hB
  rw [ht] at hP1
  have hK1 := va_K.moved hvm.symm hK1
  obtain ⟨hP, hD⟩ := va_join (wr := []) (w1 := [(h0, .inr (11, [.ref a, v1, v2, v3, v4, v5, v6, v7])), (a, .inr (4, [w0, w1, .int 0]))]) hP hD [0, 1] [] rfl rfl (by decide) (by decide) hk1 hFc hP1 hD1
  have hK := (hK.sub (tys' := []) [] rfl).app hK1
  generalize H1 = H at hP hS hce ⊢
  have hP : va_P (dC, dI) vwCl [(h0, .inr (11, [.ref a, v1, v2, v3, v4, v5, v6, v7])), (a, .inr (4, [w0, w1, .int 0]))] H := hP
  have hD : va_D A [(h0, .inr (11, [.ref a, v1, v2, v3, v4, v5, v6, v7])), (a, .inr (4, [w0, w1, .int 0]))] := hD
  have hK : va_K (dC, dI) vwCl [] s := hK
  have hP9 := hP.sub (ws' := [(h0, .inr (11, [.ref a, v1, v2, v3, v4, v5, v6, v7])), (a, .inr (4, [w0, w1, .int 0]))]) [0, 1] rfl
  have hD9 := hD.sub (ws' := [(h0, .inr (11, [.ref a, v1, v2, v3, v4, v5, v6, v7])), (a, .inr (4, [w0, w1, .int 0]))]) [0, 1] (by decide) rfl
  have hK9 := hK.sub (tys' := []) [] rfl
  exact vx_out (fun x hx => (htab x hx).elim) hlocks hce hcv hcl (fun t ht ha => ⟨(), trivial, ⟨rfl, by rw [ht]; exact hP9, va_K.moved ha hK9, hD9⟩, hS.F ht⟩) hS.2.2 (Nat.le_of_ble_eq_true rfl) (Nat.le_of_ble_eq_true rfl)
set_option maxHeartbeats 4000000 in
set_option maxRecDepth 100000 in
theorem x_getCracks (l : Launch) (hl9 : l.stackTraces = false) (dC : Nat → ClassId) (dI : Nat → Nat → Nat) (sz : Nat) (ed : Nat) (h0 : Nat) (a : Nat) (v1 : Value) (v2 : Value) (v3 : Value) (v4 : Value) (v5 : Value) (v6 : Value) (v7 : Value) (w0 : Value) (w1 : Value) (p0 : Int32) : vx_Met l yX6_getCracks (pw_ws yX6_getCracks cX6_getCracks 2 (some .int)) ({ frames := 7, cells := 1, slots := 6, locals := 121 } : Room) (va_Pc [.ref h0, .int p0] (fun U => U.heap.size = sz ∧ va_P (dC, dI) vwCl [(h0, .inr (11, [.ref a, v1, v2, v3, v4, v5, v6, v7])), (a, .inr (4, [w0, w1, .int 0]))] U.heap ∧ va_K (dC, dI) vwCl [] U ∧ va_D (fun _ => True) [(h0, .inr (11, [.ref a, v1, v2, v3, v4, v5, v6, v7])), (a, .inr (4, [w0, w1, .int 0]))] ∧ pz ed (va_A [(h0, .inr (11, [.ref a, v1, v2, v3, v4, v5, v6, v7])), (a, .inr (4, [w0, w1, .int 0]))] sz) U U.heap)) (va_Qi (fun (_ : Int32) (_ : Unit) => False) (fun (_ : Unit) (_ : State) => True) (va_A [(h0, .inr (11, [.ref a, v1, v2, v3, v4, v5, v6, v7])), (a, .inr (4, [w0, w1, .int 0]))] sz)) (vx_X px_T (fun (E : String) (_ : Unit) (t : State) => E = "java/lang/IndexOutOfBoundsException" ∧ va_P (dC, dI) vwCl [(h0, .inr (11, [.ref a, v1, v2, v3, v4, v5, v6, v7])), (a, .inr (4, [w0, w1, .int 0]))] t.heap ∧ va_K (dC, dI) vwCl [] t ∧ va_D (va_A [(h0, .inr (11, [.ref a, v1, v2, v3, v4, v5, v6, v7])), (a, .inr (4, [w0, w1, .int 0]))] sz) [(h0, .inr (11, [.ref a, v1, v2, v3, v4, v5, v6, v7])), (a, .inr (4, [w0, w1, .int 0]))]) (va_A [(h0, .inr (11, [.ref a, v1, v2, v3, v4, v5, v6, v7])), (a, .inr (4, [w0, w1, .int 0]))] sz)) 1 6 (va_A [(h0, .inr (11, [.ref a, v1, v2, v3, v4, v5, v6, v7])), (a, .inr (4, [w0, w1, .int 0]))] sz) := by
  refine vx_ofW (cc := cX6_getCracks) (maxL := 2) (ret := (some .int)) (by decide) rfl ?_
  intro p e s m args below meth c s₁ B hml htab hv
  obtain ⟨rfl, hsz, hP, hK, hD0, hZ⟩ := hv
  have hx := B.exec
  have hb := B.bytes
  have hr := B.returns
  have hts0 := atoms_spec (ws := (pw_ws yX6_getCracks cX6_getCracks 2 (some .int))) B.pre
  have hts : ∀ w ∈ pw_all, w.before _ s = true := fun w h => hts0 w (List.mem_cons_of_mem _ h)
  have hown : s.vm.findClass RX6 = some m.cls := findClass_of_methodNamed B.named
  have hlocks := B.notSynchronized
  subst hsz
  have hD := hD0.self (sz := s.heap.size)
  generalize hAe : va_A [(h0, .inr (11, [.ref a, v1, v2, v3, v4, v5, v6, v7])), (a, .inr (4, [w0, w1, .int 0]))] s.heap.size = A at hD hZ ⊢
  have hA : ∀ q : Nat, s.heap.size ≤ q → A q := fun q h => by rw [← hAe]; exact Or.inr h
  have hS : va_S A s.heap s.heap [] := va_S.rf
  have hP : va_P (dC, dI) vwCl [(h0, .inr (11, [.ref a, v1, v2, v3, v4, v5, v6, v7])), (a, .inr (4, [w0, w1, .int 0]))] s.heap := hP
  have hl := lv_entry ([.ref h0, .int p0]) (n := 2) (Nat.le_of_ble_eq_true rfl)
  rw [lg_entry_eq]
  generalize (lg_sl ([.ref h0, .int p0]) ++ List.replicate (2 - (lg_sl ([.ref h0, .int p0])).length) Slot.unset).toArray = ls at hl ⊢
  have hl : lv_has ls 2 [(0, .ref h0), (1, .int p0)] := hl
  skip
  refine lv_aload_n hx hb dX6_getCracks_0 rfl (lv_at hl 0 rfl) ?_
  refine lv_iload_n hx hb dX6_getCracks_1 rfl (lv_at hl 1 rfl) ?_
  have hPc := hP.sub (ws' := [(h0, .inr (11, [.ref a, v1, v2, v3, v4, v5, v6, v7])), (a, .inr (4, [w0, w1, .int 0]))]) [0, 1] rfl
  have hDc := hD.sub (ws' := [(h0, .inr (11, [.ref a, v1, v2, v3, v4, v5, v6, v7])), (a, .inr (4, [w0, w1, .int 0]))]) [0, 1] (by decide) rfl
  have hKc := hK.sub (tys' := []) [] rfl
  have hFc := va_free (wc := [(h0, .inr (11, [.ref a, v1, v2, v3, v4, v5, v6, v7])), (a, .inr (4, [w0, w1, .int 0]))]) hD hS hA [0, 1] rfl
  refine vx_callr (vx_runV (As := [.int p0]) (rest := []) ⟨hx, hb, hml, hown, hts⟩ (m_structureAt l hl9 dC dI s.heap.size ed h0 a v1 v2 v3 v4 v5 v6 v7 w0 w1 p0) (cwV 1 hts (pw_V q508 q510 q7 q43 q511) rfl rfl rfl (by decide +kernel) ⟨(Nat.le_of_ble_eq_true rfl), (Nat.le_of_ble_eq_true rfl)⟩) ⟨fun a U g mk q => by obtain ⟨q0, q1, qP, qK, qD, qZ⟩ := q; exact ⟨q0, q1, qP, va_K.moved (u := U) (U := U.calling g mk a) (Vm.Alike.refl U.vm) qK, qD, qZ.same rfl⟩, va_recv hKc hPc (ci := 11) (q0 := 0) rfl rfl, fun U hU hW => ⟨rfl, by rw [hU], by rw [hU]; exact hPc, va_K.moved hW.alike hKc, hDc.weaken (fun _ _ _ _ => trivial), hZ.call hS hFc hU hW⟩⟩ rfl rfl hl.1 rfl (lv_room (Nat.le_of_ble_eq_true rfl)) dX6_getCracks_2 ⟨(Nat.le_of_ble_eq_true rfl), (Nat.le_of_ble_eq_true rfl)⟩) hS (fun q _ h => hFc q h) hFc (fun q _ h => hFc q h) (fun E ce q9 u t H1 locs ht hvm hw hB hz1 hk1 hS hce hcv hcl => ?_) (fun u r_112 t H1 locs ht hvm hw hB hz1 hk1 hS => hw.elim)
  obtain ⟨rfl, hP1, hK1, hD1⟩ := hB
  rw [ht] at hP1
  have hK1 := va_K.moved hvm.symm hK1
  obtain ⟨hP, hD⟩ := va_join (wr := []) (w1 := [(h0, .inr (11, [.ref a, v1, v2, v3, v4, v5, v6, v7])), (a, .inr (4, [w0, w1, .int 0]))]) hP hD [0, 1] [] rfl rfl (by decide) (by decide) hk1 hFc hP1 hD1
  have hK := (hK.sub (tys' := []) [] rfl).app hK1
  generalize H1 = H at hP hS hce ⊢
  have hP : va_P (dC, dI) vwCl [(h0, .inr (11, [.ref a, v1, v2, v3, v4, v5, v6, v7])), (a, .inr (4, [w0, w1, .int 0]))] H := hP
  have hD : va_D A [(h0, .inr (11, [.ref a, v1, v2, v3, v4, v5, v6, v7])), (a, .inr (4, [w0, w1, .int 0]))] := hD
  have hK : va_K (dC, dI) vwCl [] s := hK
  have hP9 := hP.sub (ws' := [(h0, .inr (11, [.ref a, v1, v2, v3, v4, v5, v6, v7])), (a, .inr (4, [w0, w1, .int 0]))]) [0, 1] rfl
  have hD9 := hD.sub (ws' := [(h0, .inr (11, [.ref a, v1, v2, v3, v4, v5, v6, v7])), (a, .inr (4, [w0, w1, .int 0]))]) [0, 1] (by decide) rfl
  have hK9 := hK.sub (tys' := []) [] rfl
  exact vx_out (fun x hx => (htab x hx).elim) hlocks hce hcv hcl (fun t ht ha => ⟨(), trivial, ⟨rfl, by rw [ht]; exact hP9, va_K.moved ha hK9, hD9⟩, hS.F ht⟩) hS.2.2 (Nat.le_of_ble_eq_true rfl) (Nat.le_of_ble_eq_true rfl)
set_option maxHeartbeats 4000000 in
set_option maxRecDepth 100000 in
theorem x_takeSignature (l : Launch) (hl9 : l.stackTraces = false) (dC : Nat → ClassId) (dI : Nat → Nat → Nat) (sz : Nat) (ed : Nat) (h0 : Nat) (a : Nat) (v1 : Value) (v2 : Value) (v3 : Value) (v4 : Value) (v5 : Value) (v6 : Value) (v7 : Value) (w0 : Value) (w1 : Value) (p0 : Int32) : vx_Met l yX6_takeSignature (pw_ws yX6_takeSignature cX6_takeSignature 3 (some .int)) ({ frames := 7, cells := 1, slots := 6, locals := 121 } : Room) (va_Pc [.ref h0, .int p0] (fun U => U.heap.size = sz ∧ va_P (dC, dI) vwCl [(h0, .inr (11, [.ref a, v1, v2, v3, v4, v5, v6, v7])), (a, .inr (4, [w0, w1, .int 0]))] U.heap ∧ va_K (dC, dI) vwCl [] U ∧ va_D (fun _ => True) [(h0, .inr (11, [.ref a, v1, v2, v3, v4, v5, v6, v7])), (a, .inr (4, [w0, w1, .int 0]))] ∧ pz ed (va_A [(h0, .inr (11, [.ref a, v1, v2, v3, v4, v5, v6, v7])), (a, .inr (4, [w0, w1, .int 0]))] sz) U U.heap)) (va_Qi (fun (_ : Int32) (_ : Unit) => False) (fun (_ : Unit) (_ : State) => True) (va_A [(h0, .inr (11, [.ref a, v1, v2, v3, v4, v5, v6, v7])), (a, .inr (4, [w0, w1, .int 0]))] sz)) (vx_X px_T (fun (E : String) (_ : Unit) (t : State) => E = "java/lang/IndexOutOfBoundsException" ∧ va_P (dC, dI) vwCl [(h0, .inr (11, [.ref a, v1, v2, v3, v4, v5, v6, v7])), (a, .inr (4, [w0, w1, .int 0]))] t.heap ∧ va_K (dC, dI) vwCl [] t ∧ va_D (va_A [(h0, .inr (11, [.ref a, v1, v2, v3, v4, v5, v6, v7])), (a, .inr (4, [w0, w1, .int 0]))] sz) [(h0, .inr (11, [.ref a, v1, v2, v3, v4, v5, v6, v7])), (a, .inr (4, [w0, w1, .int 0]))]) (va_A [(h0, .inr (11, [.ref a, v1, v2, v3, v4, v5, v6, v7])), (a, .inr (4, [w0, w1, .int 0]))] sz)) 1 6 (va_A [(h0, .inr (11, [.ref a, v1, v2, v3, v4, v5, v6, v7])), (a, .inr (4, [w0, w1, .int 0]))] sz) := by
  refine vx_ofW (cc := cX6_takeSignature) (maxL := 3) (ret := (some .int)) (by decide) rfl ?_
  intro p e s m args below meth c s₁ B hml htab hv
  obtain ⟨rfl, hsz, hP, hK, hD0, hZ⟩ := hv
  have hx := B.exec
  have hb := B.bytes
  have hr := B.returns
  have hts0 := atoms_spec (ws := (pw_ws yX6_takeSignature cX6_takeSignature 3 (some .int))) B.pre
  have hts : ∀ w ∈ pw_all, w.before _ s = true := fun w h => hts0 w (List.mem_cons_of_mem _ h)
  have hown : s.vm.findClass RX6 = some m.cls := findClass_of_methodNamed B.named
  have hlocks := B.notSynchronized
  subst hsz
  have hD := hD0.self (sz := s.heap.size)
  generalize hAe : va_A [(h0, .inr (11, [.ref a, v1, v2, v3, v4, v5, v6, v7])), (a, .inr (4, [w0, w1, .int 0]))] s.heap.size = A at hD hZ ⊢
  have hA : ∀ q : Nat, s.heap.size ≤ q → A q := fun q h => by rw [← hAe]; exact Or.inr h
  have hS : va_S A s.heap s.heap [] := va_S.rf
  have hP : va_P (dC, dI) vwCl [(h0, .inr (11, [.ref a, v1, v2, v3, v4, v5, v6, v7])), (a, .inr (4, [w0, w1, .int 0]))] s.heap := hP
  have hl := lv_entry ([.ref h0, .int p0]) (n := 3) (Nat.le_of_ble_eq_true rfl)
  rw [lg_entry_eq]
  generalize (lg_sl ([.ref h0, .int p0]) ++ List.replicate (3 - (lg_sl ([.ref h0, .int p0])).length) Slot.unset).toArray = ls at hl ⊢
  have hl : lv_has ls 3 [(0, .ref h0), (1, .int p0)] := hl
  skip
  refine lv_aload_n hx hb dX6_takeSignature_0 rfl (lv_at hl 0 rfl) ?_
  refine lv_iload_n hx hb dX6_takeSignature_1 rfl (lv_at hl 1 rfl) ?_
  have hPc := hP.sub (ws' := [(h0, .inr (11, [.ref a, v1, v2, v3, v4, v5, v6, v7])), (a, .inr (4, [w0, w1, .int 0]))]) [0, 1] rfl
  have hDc := hD.sub (ws' := [(h0, .inr (11, [.ref a, v1, v2, v3, v4, v5, v6, v7])), (a, .inr (4, [w0, w1, .int 0]))]) [0, 1] (by decide) rfl
  have hKc := hK.sub (tys' := []) [] rfl
  have hFc := va_free (wc := [(h0, .inr (11, [.ref a, v1, v2, v3, v4, v5, v6, v7])), (a, .inr (4, [w0, w1, .int 0]))]) hD hS hA [0, 1] rfl
  refine vx_callr (vx_runV (As := [.int p0]) (rest := []) ⟨hx, hb, hml, hown, hts⟩ (m_structureAt l hl9 dC dI s.heap.size ed h0 a v1 v2 v3 v4 v5 v6 v7 w0 w1 p0) (cwV 1 hts (pw_V q508 q510 q7 q43 q511) rfl rfl rfl (by decide +kernel) ⟨(Nat.le_of_ble_eq_true rfl), (Nat.le_of_ble_eq_true rfl)⟩) ⟨fun a U g mk q => by obtain ⟨q0, q1, qP, qK, qD, qZ⟩ := q; exact ⟨q0, q1, qP, va_K.moved (u := U) (U := U.calling g mk a) (Vm.Alike.refl U.vm) qK, qD, qZ.same rfl⟩, va_recv hKc hPc (ci := 11) (q0 := 0) rfl rfl, fun U hU hW => ⟨rfl, by rw [hU], by rw [hU]; exact hPc, va_K.moved hW.alike hKc, hDc.weaken (fun _ _ _ _ => trivial), hZ.call hS hFc hU hW⟩⟩ rfl rfl hl.1 rfl (lv_room (Nat.le_of_ble_eq_true rfl)) dX6_takeSignature_2 ⟨(Nat.le_of_ble_eq_true rfl), (Nat.le_of_ble_eq_true rfl)⟩) hS (fun q _ h => hFc q h) hFc (fun q _ h => hFc q h) (fun E ce q9 u t H1 locs ht hvm hw hB hz1 hk1 hS hce hcv hcl => ?_) (fun u r_113 t H1 locs ht hvm hw hB hz1 hk1 hS => hw.elim)
  obtain ⟨rfl, hP1, hK1, hD1⟩ := hB
  rw [ht] at hP1
  have hK1 := va_K.moved hvm.symm hK1
  obtain ⟨hP, hD⟩ := va_join (wr := []) (w1 := [(h0, .inr (11, [.ref a, v1, v2, v3, v4, v5, v6, v7])), (a, .inr (4, [w0, w1, .int 0]))]) hP hD [0, 1] [] rfl rfl (by decide) (by decide) hk1 hFc hP1 hD1
  have hK := (hK.sub (tys' := []) [] rfl).app hK1
  generalize H1 = H at hP hS hce ⊢
  have hP : va_P (dC, dI) vwCl [(h0, .inr (11, [.ref a, v1, v2, v3, v4, v5, v6, v7])), (a, .inr (4, [w0, w1, .int 0]))] H := hP
  have hD : va_D A [(h0, .inr (11, [.ref a, v1, v2, v3, v4, v5, v6, v7])), (a, .inr (4, [w0, w1, .int 0]))] := hD
  have hK : va_K (dC, dI) vwCl [] s := hK
  have hP9 := hP.sub (ws' := [(h0, .inr (11, [.ref a, v1, v2, v3, v4, v5, v6, v7])), (a, .inr (4, [w0, w1, .int 0]))]) [0, 1] rfl
  have hD9 := hD.sub (ws' := [(h0, .inr (11, [.ref a, v1, v2, v3, v4, v5, v6, v7])), (a, .inr (4, [w0, w1, .int 0]))]) [0, 1] (by decide) rfl
  have hK9 := hK.sub (tys' := []) [] rfl
  exact vx_out (fun x hx => (htab x hx).elim) hlocks hce hcv hcl (fun t ht ha => ⟨(), trivial, ⟨rfl, by rw [ht]; exact hP9, va_K.moved ha hK9, hD9⟩, hS.F ht⟩) hS.2.2 (Nat.le_of_ble_eq_true rfl) (Nat.le_of_ble_eq_true rfl)
set_option maxHeartbeats 4000000 in
set_option maxRecDepth 100000 in
theorem x_differs (l : Launch) (hl9 : l.stackTraces = false) (dC : Nat → ClassId) (dI : Nat → Nat → Nat) (sz : Nat) (ed : Nat) (h0 : Nat) (a : Nat) (v1 : Value) (v2 : Value) (v3 : Value) (v4 : Value) (v5 : Value) (v6 : Value) (v7 : Value) (w0 : Value) (w1 : Value) (p0 : Int32) : vx_Met l yX6_differs (pw_ws yX6_differs cX6_differs 3 (some .boolean)) ({ frames := 7, cells := 1, slots := 6, locals := 121 } : Room) (va_Pc [.ref h0, .int p0] (fun U => U.heap.size = sz ∧ va_P (dC, dI) vwCl [(h0, .inr (11, [.ref a, v1, v2, v3, v4, v5, v6, v7])), (a, .inr (4, [w0, w1, .int 0]))] U.heap ∧ va_K (dC, dI) vwCl [] U ∧ va_D (fun _ => True) [(h0, .inr (11, [.ref a, v1, v2, v3, v4, v5, v6, v7])), (a, .inr (4, [w0, w1, .int 0]))] ∧ pz ed (va_A [(h0, .inr (11, [.ref a, v1, v2, v3, v4, v5, v6, v7])), (a, .inr (4, [w0, w1, .int 0]))] sz) U U.heap)) (va_Qi (fun (_ : Int32) (_ : Unit) => False) (fun (_ : Unit) (_ : State) => True) (va_A [(h0, .inr (11, [.ref a, v1, v2, v3, v4, v5, v6, v7])), (a, .inr (4, [w0, w1, .int 0]))] sz)) (vx_X px_T (fun (E : String) (_ : Unit) (t : State) => E = "java/lang/IndexOutOfBoundsException" ∧ va_P (dC, dI) vwCl [(h0, .inr (11, [.ref a, v1, v2, v3, v4, v5, v6, v7])), (a, .inr (4, [w0, w1, .int 0]))] t.heap ∧ va_K (dC, dI) vwCl [] t ∧ va_D (va_A [(h0, .inr (11, [.ref a, v1, v2, v3, v4, v5, v6, v7])), (a, .inr (4, [w0, w1, .int 0]))] sz) [(h0, .inr (11, [.ref a, v1, v2, v3, v4, v5, v6, v7])), (a, .inr (4, [w0, w1, .int 0]))]) (va_A [(h0, .inr (11, [.ref a, v1, v2, v3, v4, v5, v6, v7])), (a, .inr (4, [w0, w1, .int 0]))] sz)) 1 6 (va_A [(h0, .inr (11, [.ref a, v1, v2, v3, v4, v5, v6, v7])), (a, .inr (4, [w0, w1, .int 0]))] sz) := by
  refine vx_ofW (cc := cX6_differs) (maxL := 3) (ret := (some .boolean)) (by decide) rfl ?_
  intro p e s m args below meth c s₁ B hml htab hv
  obtain ⟨rfl, hsz, hP, hK, hD0, hZ⟩ := hv
  have hx := B.exec
  have hb := B.bytes
  have hr := B.returns
  have hts0 := atoms_spec (ws := (pw_ws yX6_differs cX6_differs 3 (some .boolean))) B.pre
  have hts : ∀ w ∈ pw_all, w.before _ s = true := fun w h => hts0 w (List.mem_cons_of_mem _ h)
  have hown : s.vm.findClass RX6 = some m.cls := findClass_of_methodNamed B.named
  have hlocks := B.notSynchronized
  subst hsz
  have hD := hD0.self (sz := s.heap.size)
  generalize hAe : va_A [(h0, .inr (11, [.ref a, v1, v2, v3, v4, v5, v6, v7])), (a, .inr (4, [w0, w1, .int 0]))] s.heap.size = A at hD hZ ⊢
  have hA : ∀ q : Nat, s.heap.size ≤ q → A q := fun q h => by rw [← hAe]; exact Or.inr h
  have hS : va_S A s.heap s.heap [] := va_S.rf
  have hP : va_P (dC, dI) vwCl [(h0, .inr (11, [.ref a, v1, v2, v3, v4, v5, v6, v7])), (a, .inr (4, [w0, w1, .int 0]))] s.heap := hP
  have hl := lv_entry ([.ref h0, .int p0]) (n := 3) (Nat.le_of_ble_eq_true rfl)
  rw [lg_entry_eq]
  generalize (lg_sl ([.ref h0, .int p0]) ++ List.replicate (3 - (lg_sl ([.ref h0, .int p0])).length) Slot.unset).toArray = ls at hl ⊢
  have hl : lv_has ls 3 [(0, .ref h0), (1, .int p0)] := hl
  skip
  refine lv_aload_n hx hb dX6_differs_0 rfl (lv_at hl 0 rfl) ?_
  refine lv_iload_n hx hb dX6_differs_1 rfl (lv_at hl 1 rfl) ?_
  have hPc := hP.sub (ws' := [(h0, .inr (11, [.ref a, v1, v2, v3, v4, v5, v6, v7])), (a, .inr (4, [w0, w1, .int 0]))]) [0, 1] rfl
  have hDc := hD.sub (ws' := [(h0, .inr (11, [.ref a, v1, v2, v3, v4, v5, v6, v7])), (a, .inr (4, [w0, w1, .int 0]))]) [0, 1] (by decide) rfl
  have hKc := hK.sub (tys' := []) [] rfl
  have hFc := va_free (wc := [(h0, .inr (11, [.ref a, v1, v2, v3, v4, v5, v6, v7])), (a, .inr (4, [w0, w1, .int 0]))]) hD hS hA [0, 1] rfl
  refine vx_callr (vx_runV (As := [.int p0]) (rest := []) ⟨hx, hb, hml, hown, hts⟩ (m_structureAt l hl9 dC dI s.heap.size ed h0 a v1 v2 v3 v4 v5 v6 v7 w0 w1 p0) (cwV 1 hts (pw_V q508 q510 q7 q43 q511) rfl rfl rfl (by decide +kernel) ⟨(Nat.le_of_ble_eq_true rfl), (Nat.le_of_ble_eq_true rfl)⟩) ⟨fun a U g mk q => by obtain ⟨q0, q1, qP, qK, qD, qZ⟩ := q; exact ⟨q0, q1, qP, va_K.moved (u := U) (U := U.calling g mk a) (Vm.Alike.refl U.vm) qK, qD, qZ.same rfl⟩, va_recv hKc hPc (ci := 11) (q0 := 0) rfl rfl, fun U hU hW => ⟨rfl, by rw [hU], by rw [hU]; exact hPc, va_K.moved hW.alike hKc, hDc.weaken (fun _ _ _ _ => trivial), hZ.call hS hFc hU hW⟩⟩ rfl rfl hl.1 rfl (lv_room (Nat.le_of_ble_eq_true rfl)) dX6_differs_2 ⟨(Nat.le_of_ble_eq_true rfl), (Nat.le_of_ble_eq_true rfl)⟩) hS (fun q _ h => hFc q h) hFc (fun q _ h => hFc q h) (fun E ce q9 u t H1 locs ht hvm hw hB hz1 hk1 hS hce hcv hcl => ?_) (fun u r_114 t H1 locs ht hvm hw hB hz1 hk1 hS => hw.elim)
  obtain ⟨rfl, hP1, hK1, hD1⟩ := hB
  rw [ht] at hP1
  have hK1 := va_K.moved hvm.symm hK1
  obtain ⟨hP, hD⟩ := va_join (wr := []) (w1 := [(h0, .inr (11, [.ref a, v1, v2, v3, v4, v5, v6, v7])), (a, .inr (4, [w0, w1, .int 0]))]) hP hD [0, 1] [] rfl rfl (by decide) (by decide) hk1 hFc hP1 hD1
  have hK := (hK.sub (tys' := []) [] rfl).app hK1
  generalize H1 = H at hP hS hce ⊢
  have hP : va_P (dC, dI) vwCl [(h0, .inr (11, [.ref a, v1, v2, v3, v4, v5, v6, v7])), (a, .inr (4, [w0, w1, .int 0]))] H := hP
  have hD : va_D A [(h0, .inr (11, [.ref a, v1, v2, v3, v4, v5, v6, v7])), (a, .inr (4, [w0, w1, .int 0]))] := hD
  have hK : va_K (dC, dI) vwCl [] s := hK
  have hP9 := hP.sub (ws' := [(h0, .inr (11, [.ref a, v1, v2, v3, v4, v5, v6, v7])), (a, .inr (4, [w0, w1, .int 0]))]) [0, 1] rfl
  have hD9 := hD.sub (ws' := [(h0, .inr (11, [.ref a, v1, v2, v3, v4, v5, v6, v7])), (a, .inr (4, [w0, w1, .int 0]))]) [0, 1] (by decide) rfl
  have hK9 := hK.sub (tys' := []) [] rfl
  exact vx_out (fun x hx => (htab x hx).elim) hlocks hce hcv hcl (fun t ht ha => ⟨(), trivial, ⟨rfl, by rw [ht]; exact hP9, va_K.moved ha hK9, hD9⟩, hS.F ht⟩) hS.2.2 (Nat.le_of_ble_eq_true rfl) (Nat.le_of_ble_eq_true rfl)
set_option maxHeartbeats 4000000 in
set_option maxRecDepth 100000 in
theorem x_setLoose (l : Launch) (hl9 : l.stackTraces = false) (dC : Nat → ClassId) (dI : Nat → Nat → Nat) (sz : Nat) (ed : Nat) (h0 : Nat) (a : Nat) (v0 : Value) (v2 : Value) (v3 : Value) (v4 : Value) (v5 : Value) (v6 : Value) (v7 : Value) (w0 : Value) (w1 : Value) (p0 : Int32) (p1 : Int32) : vx_Met l yX6_setLoose (pw_ws yX6_setLoose cX6_setLoose 5 (some .boolean)) ({ frames := 7, cells := 1, slots := 6, locals := 121 } : Room) (va_Pc [.ref h0, .int p0, .int p1] (fun U => U.heap.size = sz ∧ va_P (dC, dI) vwCl [(h0, .inr (11, [v0, .ref a, v2, v3, v4, v5, v6, v7])), (a, .inr (4, [w0, w1, .int 0]))] U.heap ∧ va_K (dC, dI) vwCl [] U ∧ va_D (fun _ => True) [(h0, .inr (11, [v0, .ref a, v2, v3, v4, v5, v6, v7])), (a, .inr (4, [w0, w1, .int 0]))] ∧ pz ed (va_A [(h0, .inr (11, [v0, .ref a, v2, v3, v4, v5, v6, v7])), (a, .inr (4, [w0, w1, .int 0]))] sz) U U.heap)) (va_Qi (fun (_ : Int32) (_ : Unit) => False) (fun (_ : Unit) (_ : State) => True) (va_A [(h0, .inr (11, [v0, .ref a, v2, v3, v4, v5, v6, v7])), (a, .inr (4, [w0, w1, .int 0]))] sz)) (vx_X px_T (fun (E : String) (_ : Unit) (t : State) => E = "java/lang/IndexOutOfBoundsException" ∧ va_P (dC, dI) vwCl [(h0, .inr (11, [v0, .ref a, v2, v3, v4, v5, v6, v7])), (a, .inr (4, [w0, w1, .int 0]))] t.heap ∧ va_K (dC, dI) vwCl [] t ∧ va_D (va_A [(h0, .inr (11, [v0, .ref a, v2, v3, v4, v5, v6, v7])), (a, .inr (4, [w0, w1, .int 0]))] sz) [(h0, .inr (11, [v0, .ref a, v2, v3, v4, v5, v6, v7])), (a, .inr (4, [w0, w1, .int 0]))]) (va_A [(h0, .inr (11, [v0, .ref a, v2, v3, v4, v5, v6, v7])), (a, .inr (4, [w0, w1, .int 0]))] sz)) 1 6 (va_A [(h0, .inr (11, [v0, .ref a, v2, v3, v4, v5, v6, v7])), (a, .inr (4, [w0, w1, .int 0]))] sz) := by
  refine vx_ofW (cc := cX6_setLoose) (maxL := 5) (ret := (some .boolean)) (by decide) rfl ?_
  intro p e s m args below meth c s₁ B hml htab hv
  obtain ⟨rfl, hsz, hP, hK, hD0, hZ⟩ := hv
  have hx := B.exec
  have hb := B.bytes
  have hr := B.returns
  have hts0 := atoms_spec (ws := (pw_ws yX6_setLoose cX6_setLoose 5 (some .boolean))) B.pre
  have hts : ∀ w ∈ pw_all, w.before _ s = true := fun w h => hts0 w (List.mem_cons_of_mem _ h)
  have hown : s.vm.findClass RX6 = some m.cls := findClass_of_methodNamed B.named
  have hlocks := B.notSynchronized
  subst hsz
  have hD := hD0.self (sz := s.heap.size)
  generalize hAe : va_A [(h0, .inr (11, [v0, .ref a, v2, v3, v4, v5, v6, v7])), (a, .inr (4, [w0, w1, .int 0]))] s.heap.size = A at hD hZ ⊢
  have hA : ∀ q : Nat, s.heap.size ≤ q → A q := fun q h => by rw [← hAe]; exact Or.inr h
  have hS : va_S A s.heap s.heap [] := va_S.rf
  have hP : va_P (dC, dI) vwCl [(h0, .inr (11, [v0, .ref a, v2, v3, v4, v5, v6, v7])), (a, .inr (4, [w0, w1, .int 0]))] s.heap := hP
  have hl := lv_entry ([.ref h0, .int p0, .int p1]) (n := 5) (Nat.le_of_ble_eq_true rfl)
  rw [lg_entry_eq]
  generalize (lg_sl ([.ref h0, .int p0, .int p1]) ++ List.replicate (5 - (lg_sl ([.ref h0, .int p0, .int p1])).length) Slot.unset).toArray = ls at hl ⊢
  have hl : lv_has ls 5 [(0, .ref h0), (1, .int p0), (2, .int p1)] := hl
  skip
  refine lv_aload_n hx hb dX6_setLoose_0 rfl (lv_at hl 0 rfl) ?_
  refine lv_iload_n hx hb dX6_setLoose_1 rfl (lv_at hl 1 rfl) ?_
  have hPc := hP.sub (ws' := [(h0, .inr (11, [v0, .ref a, v2, v3, v4, v5, v6, v7])), (a, .inr (4, [w0, w1, .int 0]))]) [0, 1] rfl
  have hDc := hD.sub (ws' := [(h0, .inr (11, [v0, .ref a, v2, v3, v4, v5, v6, v7])), (a, .inr (4, [w0, w1, .int 0]))]) [0, 1] (by decide) rfl
  have hKc := hK.sub (tys' := []) [] rfl
  have hFc := va_free (wc := [(h0, .inr (11, [v0, .ref a, v2, v3, v4, v5, v6, v7])), (a, .inr (4, [w0, w1, .int 0]))]) hD hS hA [0, 1] rfl
  refine vx_callr (vx_runV (As := [.int p0]) (rest := []) ⟨hx, hb, hml, hown, hts⟩ (m_sensorAt l hl9 dC dI s.heap.size ed h0 a v0 v2 v3 v4 v5 v6 v7 w0 w1 p0) (cwV 1 hts (pw_V q694 q696 q9 q43 q697) rfl rfl rfl (by decide +kernel) ⟨(Nat.le_of_ble_eq_true rfl), (Nat.le_of_ble_eq_true rfl)⟩) ⟨fun a U g mk q => by obtain ⟨q0, q1, qP, qK, qD, qZ⟩ := q; exact ⟨q0, q1, qP, va_K.moved (u := U) (U := U.calling g mk a) (Vm.Alike.refl U.vm) qK, qD, qZ.same rfl⟩, va_recv hKc hPc (ci := 11) (q0 := 0) rfl rfl, fun U hU hW => ⟨rfl, by rw [hU], by rw [hU]; exact hPc, va_K.moved hW.alike hKc, hDc.weaken (fun _ _ _ _ => trivial), hZ.call hS hFc hU hW⟩⟩ rfl rfl hl.1 rfl (lv_room (Nat.le_of_ble_eq_true rfl)) dX6_setLoose_2 ⟨(Nat.le_of_ble_eq_true rfl), (Nat.le_of_ble_eq_true rfl)⟩) hS (fun q _ h => hFc q h) hFc (fun q _ h => hFc q h) (fun E ce q9 u t H1 locs ht hvm hw hB hz1 hk1 hS hce hcv hcl => ?_) (fun u r_115 t H1 locs ht hvm hw hB hz1 hk1 hS => hw.elim)
  obtain ⟨rfl, hP1, hK1, hD1⟩ := hB
  rw [ht] at hP1
  have hK1 := va_K.moved hvm.symm hK1
  obtain ⟨hP, hD⟩ := va_join (wr := []) (w1 := [(h0, .inr (11, [v0, .ref a, v2, v3, v4, v5, v6, v7])), (a, .inr (4, [w0, w1, .int 0]))]) hP hD [0, 1] [] rfl rfl (by decide) (by decide) hk1 hFc hP1 hD1
  have hK := (hK.sub (tys' := []) [] rfl).app hK1
  generalize H1 = H at hP hS hce ⊢
  have hP : va_P (dC, dI) vwCl [(h0, .inr (11, [v0, .ref a, v2, v3, v4, v5, v6, v7])), (a, .inr (4, [w0, w1, .int 0]))] H := hP
  have hD : va_D A [(h0, .inr (11, [v0, .ref a, v2, v3, v4, v5, v6, v7])), (a, .inr (4, [w0, w1, .int 0]))] := hD
  have hK : va_K (dC, dI) vwCl [] s := hK
  have hP9 := hP.sub (ws' := [(h0, .inr (11, [v0, .ref a, v2, v3, v4, v5, v6, v7])), (a, .inr (4, [w0, w1, .int 0]))]) [0, 1] rfl
  have hD9 := hD.sub (ws' := [(h0, .inr (11, [v0, .ref a, v2, v3, v4, v5, v6, v7])), (a, .inr (4, [w0, w1, .int 0]))]) [0, 1] (by decide) rfl
  have hK9 := hK.sub (tys' := []) [] rfl
  exact vx_out (fun x hx => (htab x hx).elim) hlocks hce hcv hcl (fun t ht ha => ⟨(), trivial, ⟨rfl, by rw [ht]; exact hP9, va_K.moved ha hK9, hD9⟩, hS.F ht⟩) hS.2.2 (Nat.le_of_ble_eq_true rfl) (Nat.le_of_ble_eq_true rfl)
set_option maxHeartbeats 4000000 in
set_option maxRecDepth 100000 in
theorem x_read (l : Launch) (hl9 : l.stackTraces = false) (dC : Nat → ClassId) (dI : Nat → Nat → Nat) (sz : Nat) (ed : Nat) (h0 : Nat) (a : Nat) (v0 : Value) (v2 : Value) (v3 : Value) (v4 : Value) (v5 : Value) (v6 : Value) (v7 : Value) (w0 : Value) (w1 : Value) (p0 : Int32) (p1 : Int32) : vx_Met l yX6_read (pw_ws yX6_read cX6_read 5 (some .int)) ({ frames := 7, cells := 1, slots := 6, locals := 121 } : Room) (va_Pc [.ref h0, .int p0, .int p1] (fun U => U.heap.size = sz ∧ va_P (dC, dI) vwCl [(h0, .inr (11, [v0, .ref a, v2, v3, v4, v5, v6, v7])), (a, .inr (4, [w0, w1, .int 0]))] U.heap ∧ va_K (dC, dI) vwCl [] U ∧ va_D (fun _ => True) [(h0, .inr (11, [v0, .ref a, v2, v3, v4, v5, v6, v7])), (a, .inr (4, [w0, w1, .int 0]))] ∧ pz ed (va_A [(h0, .inr (11, [v0, .ref a, v2, v3, v4, v5, v6, v7])), (a, .inr (4, [w0, w1, .int 0]))] sz) U U.heap)) (va_Qi (fun (_ : Int32) (_ : Unit) => False) (fun (_ : Unit) (_ : State) => True) (va_A [(h0, .inr (11, [v0, .ref a, v2, v3, v4, v5, v6, v7])), (a, .inr (4, [w0, w1, .int 0]))] sz)) (vx_X px_T (fun (E : String) (_ : Unit) (t : State) => E = "java/lang/IndexOutOfBoundsException" ∧ va_P (dC, dI) vwCl [(h0, .inr (11, [v0, .ref a, v2, v3, v4, v5, v6, v7])), (a, .inr (4, [w0, w1, .int 0]))] t.heap ∧ va_K (dC, dI) vwCl [] t ∧ va_D (va_A [(h0, .inr (11, [v0, .ref a, v2, v3, v4, v5, v6, v7])), (a, .inr (4, [w0, w1, .int 0]))] sz) [(h0, .inr (11, [v0, .ref a, v2, v3, v4, v5, v6, v7])), (a, .inr (4, [w0, w1, .int 0]))]) (va_A [(h0, .inr (11, [v0, .ref a, v2, v3, v4, v5, v6, v7])), (a, .inr (4, [w0, w1, .int 0]))] sz)) 1 6 (va_A [(h0, .inr (11, [v0, .ref a, v2, v3, v4, v5, v6, v7])), (a, .inr (4, [w0, w1, .int 0]))] sz) := by
  refine vx_ofW (cc := cX6_read) (maxL := 5) (ret := (some .int)) (by decide) rfl ?_
  intro p e s m args below meth c s₁ B hml htab hv
  obtain ⟨rfl, hsz, hP, hK, hD0, hZ⟩ := hv
  have hx := B.exec
  have hb := B.bytes
  have hr := B.returns
  have hts0 := atoms_spec (ws := (pw_ws yX6_read cX6_read 5 (some .int))) B.pre
  have hts : ∀ w ∈ pw_all, w.before _ s = true := fun w h => hts0 w (List.mem_cons_of_mem _ h)
  have hown : s.vm.findClass RX6 = some m.cls := findClass_of_methodNamed B.named
  have hlocks := B.notSynchronized
  subst hsz
  have hD := hD0.self (sz := s.heap.size)
  generalize hAe : va_A [(h0, .inr (11, [v0, .ref a, v2, v3, v4, v5, v6, v7])), (a, .inr (4, [w0, w1, .int 0]))] s.heap.size = A at hD hZ ⊢
  have hA : ∀ q : Nat, s.heap.size ≤ q → A q := fun q h => by rw [← hAe]; exact Or.inr h
  have hS : va_S A s.heap s.heap [] := va_S.rf
  have hP : va_P (dC, dI) vwCl [(h0, .inr (11, [v0, .ref a, v2, v3, v4, v5, v6, v7])), (a, .inr (4, [w0, w1, .int 0]))] s.heap := hP
  have hl := lv_entry ([.ref h0, .int p0, .int p1]) (n := 5) (Nat.le_of_ble_eq_true rfl)
  rw [lg_entry_eq]
  generalize (lg_sl ([.ref h0, .int p0, .int p1]) ++ List.replicate (5 - (lg_sl ([.ref h0, .int p0, .int p1])).length) Slot.unset).toArray = ls at hl ⊢
  have hl : lv_has ls 5 [(0, .ref h0), (1, .int p0), (2, .int p1)] := hl
  skip
  refine lv_aload_n hx hb dX6_read_0 rfl (lv_at hl 0 rfl) ?_
  refine lv_iload_n hx hb dX6_read_1 rfl (lv_at hl 1 rfl) ?_
  have hPc := hP.sub (ws' := [(h0, .inr (11, [v0, .ref a, v2, v3, v4, v5, v6, v7])), (a, .inr (4, [w0, w1, .int 0]))]) [0, 1] rfl
  have hDc := hD.sub (ws' := [(h0, .inr (11, [v0, .ref a, v2, v3, v4, v5, v6, v7])), (a, .inr (4, [w0, w1, .int 0]))]) [0, 1] (by decide) rfl
  have hKc := hK.sub (tys' := []) [] rfl
  have hFc := va_free (wc := [(h0, .inr (11, [v0, .ref a, v2, v3, v4, v5, v6, v7])), (a, .inr (4, [w0, w1, .int 0]))]) hD hS hA [0, 1] rfl
  refine vx_callr (vx_runV (As := [.int p0]) (rest := []) ⟨hx, hb, hml, hown, hts⟩ (m_sensorAt l hl9 dC dI s.heap.size ed h0 a v0 v2 v3 v4 v5 v6 v7 w0 w1 p0) (cwV 1 hts (pw_V q694 q696 q9 q43 q697) rfl rfl rfl (by decide +kernel) ⟨(Nat.le_of_ble_eq_true rfl), (Nat.le_of_ble_eq_true rfl)⟩) ⟨fun a U g mk q => by obtain ⟨q0, q1, qP, qK, qD, qZ⟩ := q; exact ⟨q0, q1, qP, va_K.moved (u := U) (U := U.calling g mk a) (Vm.Alike.refl U.vm) qK, qD, qZ.same rfl⟩, va_recv hKc hPc (ci := 11) (q0 := 0) rfl rfl, fun U hU hW => ⟨rfl, by rw [hU], by rw [hU]; exact hPc, va_K.moved hW.alike hKc, hDc.weaken (fun _ _ _ _ => trivial), hZ.call hS hFc hU hW⟩⟩ rfl rfl hl.1 rfl (lv_room (Nat.le_of_ble_eq_true rfl)) dX6_read_2 ⟨(Nat.le_of_ble_eq_true rfl), (Nat.le_of_ble_eq_true rfl)⟩) hS (fun q _ h => hFc q h) hFc (fun q _ h => hFc q h) (fun E ce q9 u t H1 locs ht hvm hw hB hz1 hk1 hS hce hcv hcl => ?_) (fun u r_116 t H1 locs ht hvm hw hB hz1 hk1 hS => hw.elim)
  obtain ⟨rfl, hP1, hK1, hD1⟩ := hB
  rw [ht] at hP1
  have hK1 := va_K.moved hvm.symm hK1
  obtain ⟨hP, hD⟩ := va_join (wr := []) (w1 := [(h0, .inr (11, [v0, .ref a, v2, v3, v4, v5, v6, v7])), (a, .inr (4, [w0, w1, .int 0]))]) hP hD [0, 1] [] rfl rfl (by decide) (by decide) hk1 hFc hP1 hD1
  have hK := (hK.sub (tys' := []) [] rfl).app hK1
  generalize H1 = H at hP hS hce ⊢
  have hP : va_P (dC, dI) vwCl [(h0, .inr (11, [v0, .ref a, v2, v3, v4, v5, v6, v7])), (a, .inr (4, [w0, w1, .int 0]))] H := hP
  have hD : va_D A [(h0, .inr (11, [v0, .ref a, v2, v3, v4, v5, v6, v7])), (a, .inr (4, [w0, w1, .int 0]))] := hD
  have hK : va_K (dC, dI) vwCl [] s := hK
  have hP9 := hP.sub (ws' := [(h0, .inr (11, [v0, .ref a, v2, v3, v4, v5, v6, v7])), (a, .inr (4, [w0, w1, .int 0]))]) [0, 1] rfl
  have hD9 := hD.sub (ws' := [(h0, .inr (11, [v0, .ref a, v2, v3, v4, v5, v6, v7])), (a, .inr (4, [w0, w1, .int 0]))]) [0, 1] (by decide) rfl
  have hK9 := hK.sub (tys' := []) [] rfl
  exact vx_out (fun x hx => (htab x hx).elim) hlocks hce hcv hcl (fun t ht ha => ⟨(), trivial, ⟨rfl, by rw [ht]; exact hP9, va_K.moved ha hK9, hD9⟩, hS.F ht⟩) hS.2.2 (Nat.le_of_ble_eq_true rfl) (Nat.le_of_ble_eq_true rfl)
set_option maxHeartbeats 4000000 in
set_option maxRecDepth 100000 in
theorem x_setLevel (l : Launch) (hl9 : l.stackTraces = false) (dC : Nat → ClassId) (dI : Nat → Nat → Nat) (sz : Nat) (ed : Nat) (h0 : Nat) (a : Nat) (v0 : Value) (v1 : Value) (v3 : Value) (v4 : Value) (v5 : Value) (v6 : Value) (v7 : Value) (w0 : Value) (w1 : Value) (p0 : Int32) (p1 : Int32) (p2 : Int32) : vx_Met l yX6_setLevel (pw_ws yX6_setLevel cX6_setLevel 6 (some .int)) ({ frames := 7, cells := 1, slots := 6, locals := 121 } : Room) (va_Pc [.ref h0, .int p0, .int p1, .int p2] (fun U => U.heap.size = sz ∧ va_P (dC, dI) vwCl [(h0, .inr (11, [v0, v1, .ref a, v3, v4, v5, v6, v7])), (a, .inr (4, [w0, w1, .int 0]))] U.heap ∧ va_K (dC, dI) vwCl [] U ∧ va_D (fun _ => True) [(h0, .inr (11, [v0, v1, .ref a, v3, v4, v5, v6, v7])), (a, .inr (4, [w0, w1, .int 0]))] ∧ pz ed (va_A [(h0, .inr (11, [v0, v1, .ref a, v3, v4, v5, v6, v7])), (a, .inr (4, [w0, w1, .int 0]))] sz) U U.heap)) (va_Qi (fun (_ : Int32) (_ : Unit) => False) (fun (_ : Unit) (_ : State) => True) (va_A [(h0, .inr (11, [v0, v1, .ref a, v3, v4, v5, v6, v7])), (a, .inr (4, [w0, w1, .int 0]))] sz)) (vx_X px_T (fun (E : String) (_ : Unit) (t : State) => E = "java/lang/IndexOutOfBoundsException" ∧ va_P (dC, dI) vwCl [(h0, .inr (11, [v0, v1, .ref a, v3, v4, v5, v6, v7])), (a, .inr (4, [w0, w1, .int 0]))] t.heap ∧ va_K (dC, dI) vwCl [] t ∧ va_D (va_A [(h0, .inr (11, [v0, v1, .ref a, v3, v4, v5, v6, v7])), (a, .inr (4, [w0, w1, .int 0]))] sz) [(h0, .inr (11, [v0, v1, .ref a, v3, v4, v5, v6, v7])), (a, .inr (4, [w0, w1, .int 0]))]) (va_A [(h0, .inr (11, [v0, v1, .ref a, v3, v4, v5, v6, v7])), (a, .inr (4, [w0, w1, .int 0]))] sz)) 1 6 (va_A [(h0, .inr (11, [v0, v1, .ref a, v3, v4, v5, v6, v7])), (a, .inr (4, [w0, w1, .int 0]))] sz) := by
  refine vx_ofW (cc := cX6_setLevel) (maxL := 6) (ret := (some .int)) (by decide) rfl ?_
  intro p e s m args below meth c s₁ B hml htab hv
  obtain ⟨rfl, hsz, hP, hK, hD0, hZ⟩ := hv
  have hx := B.exec
  have hb := B.bytes
  have hr := B.returns
  have hts0 := atoms_spec (ws := (pw_ws yX6_setLevel cX6_setLevel 6 (some .int))) B.pre
  have hts : ∀ w ∈ pw_all, w.before _ s = true := fun w h => hts0 w (List.mem_cons_of_mem _ h)
  have hown : s.vm.findClass RX6 = some m.cls := findClass_of_methodNamed B.named
  have hlocks := B.notSynchronized
  subst hsz
  have hD := hD0.self (sz := s.heap.size)
  generalize hAe : va_A [(h0, .inr (11, [v0, v1, .ref a, v3, v4, v5, v6, v7])), (a, .inr (4, [w0, w1, .int 0]))] s.heap.size = A at hD hZ ⊢
  have hA : ∀ q : Nat, s.heap.size ≤ q → A q := fun q h => by rw [← hAe]; exact Or.inr h
  have hS : va_S A s.heap s.heap [] := va_S.rf
  have hP : va_P (dC, dI) vwCl [(h0, .inr (11, [v0, v1, .ref a, v3, v4, v5, v6, v7])), (a, .inr (4, [w0, w1, .int 0]))] s.heap := hP
  have hl := lv_entry ([.ref h0, .int p0, .int p1, .int p2]) (n := 6) (Nat.le_of_ble_eq_true rfl)
  rw [lg_entry_eq]
  generalize (lg_sl ([.ref h0, .int p0, .int p1, .int p2]) ++ List.replicate (6 - (lg_sl ([.ref h0, .int p0, .int p1, .int p2])).length) Slot.unset).toArray = ls at hl ⊢
  have hl : lv_has ls 6 [(0, .ref h0), (1, .int p0), (2, .int p1), (3, .int p2)] := hl
  skip
  refine lv_aload_n hx hb dX6_setLevel_0 rfl (lv_at hl 0 rfl) ?_
  refine lv_iload_n hx hb dX6_setLevel_1 rfl (lv_at hl 1 rfl) ?_
  have hPc := hP.sub (ws' := [(h0, .inr (11, [v0, v1, .ref a, v3, v4, v5, v6, v7])), (a, .inr (4, [w0, w1, .int 0]))]) [0, 1] rfl
  have hDc := hD.sub (ws' := [(h0, .inr (11, [v0, v1, .ref a, v3, v4, v5, v6, v7])), (a, .inr (4, [w0, w1, .int 0]))]) [0, 1] (by decide) rfl
  have hKc := hK.sub (tys' := []) [] rfl
  have hFc := va_free (wc := [(h0, .inr (11, [v0, v1, .ref a, v3, v4, v5, v6, v7])), (a, .inr (4, [w0, w1, .int 0]))]) hD hS hA [0, 1] rfl
  refine vx_callr (vx_runV (As := [.int p0]) (rest := []) ⟨hx, hb, hml, hown, hts⟩ (m_specificationAt l hl9 dC dI s.heap.size ed h0 a v0 v1 v3 v4 v5 v6 v7 w0 w1 p0) (cwV 1 hts (pw_V q743 q745 q10 q43 q746) rfl rfl rfl (by decide +kernel) ⟨(Nat.le_of_ble_eq_true rfl), (Nat.le_of_ble_eq_true rfl)⟩) ⟨fun a U g mk q => by obtain ⟨q0, q1, qP, qK, qD, qZ⟩ := q; exact ⟨q0, q1, qP, va_K.moved (u := U) (U := U.calling g mk a) (Vm.Alike.refl U.vm) qK, qD, qZ.same rfl⟩, va_recv hKc hPc (ci := 11) (q0 := 0) rfl rfl, fun U hU hW => ⟨rfl, by rw [hU], by rw [hU]; exact hPc, va_K.moved hW.alike hKc, hDc.weaken (fun _ _ _ _ => trivial), hZ.call hS hFc hU hW⟩⟩ rfl rfl hl.1 rfl (lv_room (Nat.le_of_ble_eq_true rfl)) dX6_setLevel_2 ⟨(Nat.le_of_ble_eq_true rfl), (Nat.le_of_ble_eq_true rfl)⟩) hS (fun q _ h => hFc q h) hFc (fun q _ h => hFc q h) (fun E ce q9 u t H1 locs ht hvm hw hB hz1 hk1 hS hce hcv hcl => ?_) (fun u r_117 t H1 locs ht hvm hw hB hz1 hk1 hS => hw.elim)
  obtain ⟨rfl, hP1, hK1, hD1⟩ := hB
  rw [ht] at hP1
  have hK1 := va_K.moved hvm.symm hK1
  obtain ⟨hP, hD⟩ := va_join (wr := []) (w1 := [(h0, .inr (11, [v0, v1, .ref a, v3, v4, v5, v6, v7])), (a, .inr (4, [w0, w1, .int 0]))]) hP hD [0, 1] [] rfl rfl (by decide) (by decide) hk1 hFc hP1 hD1
  have hK := (hK.sub (tys' := []) [] rfl).app hK1
  generalize H1 = H at hP hS hce ⊢
  have hP : va_P (dC, dI) vwCl [(h0, .inr (11, [v0, v1, .ref a, v3, v4, v5, v6, v7])), (a, .inr (4, [w0, w1, .int 0]))] H := hP
  have hD : va_D A [(h0, .inr (11, [v0, v1, .ref a, v3, v4, v5, v6, v7])), (a, .inr (4, [w0, w1, .int 0]))] := hD
  have hK : va_K (dC, dI) vwCl [] s := hK
  have hP9 := hP.sub (ws' := [(h0, .inr (11, [v0, v1, .ref a, v3, v4, v5, v6, v7])), (a, .inr (4, [w0, w1, .int 0]))]) [0, 1] rfl
  have hD9 := hD.sub (ws' := [(h0, .inr (11, [v0, v1, .ref a, v3, v4, v5, v6, v7])), (a, .inr (4, [w0, w1, .int 0]))]) [0, 1] (by decide) rfl
  have hK9 := hK.sub (tys' := []) [] rfl
  exact vx_out (fun x hx => (htab x hx).elim) hlocks hce hcv hcl (fun t ht ha => ⟨(), trivial, ⟨rfl, by rw [ht]; exact hP9, va_K.moved ha hK9, hD9⟩, hS.F ht⟩) hS.2.2 (Nat.le_of_ble_eq_true rfl) (Nat.le_of_ble_eq_true rfl)
set_option maxHeartbeats 4000000 in
set_option maxRecDepth 100000 in
theorem x_setTolerance (l : Launch) (hl9 : l.stackTraces = false) (dC : Nat → ClassId) (dI : Nat → Nat → Nat) (sz : Nat) (ed : Nat) (h0 : Nat) (a : Nat) (v0 : Value) (v1 : Value) (v3 : Value) (v4 : Value) (v5 : Value) (v6 : Value) (v7 : Value) (w0 : Value) (w1 : Value) (p0 : Int32) (p1 : Int32) (p2 : Int32) : vx_Met l yX6_setTolerance (pw_ws yX6_setTolerance cX6_setTolerance 6 (some .int)) ({ frames := 7, cells := 1, slots := 6, locals := 121 } : Room) (va_Pc [.ref h0, .int p0, .int p1, .int p2] (fun U => U.heap.size = sz ∧ va_P (dC, dI) vwCl [(h0, .inr (11, [v0, v1, .ref a, v3, v4, v5, v6, v7])), (a, .inr (4, [w0, w1, .int 0]))] U.heap ∧ va_K (dC, dI) vwCl [] U ∧ va_D (fun _ => True) [(h0, .inr (11, [v0, v1, .ref a, v3, v4, v5, v6, v7])), (a, .inr (4, [w0, w1, .int 0]))] ∧ pz ed (va_A [(h0, .inr (11, [v0, v1, .ref a, v3, v4, v5, v6, v7])), (a, .inr (4, [w0, w1, .int 0]))] sz) U U.heap)) (va_Qi (fun (_ : Int32) (_ : Unit) => False) (fun (_ : Unit) (_ : State) => True) (va_A [(h0, .inr (11, [v0, v1, .ref a, v3, v4, v5, v6, v7])), (a, .inr (4, [w0, w1, .int 0]))] sz)) (vx_X px_T (fun (E : String) (_ : Unit) (t : State) => E = "java/lang/IndexOutOfBoundsException" ∧ va_P (dC, dI) vwCl [(h0, .inr (11, [v0, v1, .ref a, v3, v4, v5, v6, v7])), (a, .inr (4, [w0, w1, .int 0]))] t.heap ∧ va_K (dC, dI) vwCl [] t ∧ va_D (va_A [(h0, .inr (11, [v0, v1, .ref a, v3, v4, v5, v6, v7])), (a, .inr (4, [w0, w1, .int 0]))] sz) [(h0, .inr (11, [v0, v1, .ref a, v3, v4, v5, v6, v7])), (a, .inr (4, [w0, w1, .int 0]))]) (va_A [(h0, .inr (11, [v0, v1, .ref a, v3, v4, v5, v6, v7])), (a, .inr (4, [w0, w1, .int 0]))] sz)) 1 6 (va_A [(h0, .inr (11, [v0, v1, .ref a, v3, v4, v5, v6, v7])), (a, .inr (4, [w0, w1, .int 0]))] sz) := by
  refine vx_ofW (cc := cX6_setTolerance) (maxL := 6) (ret := (some .int)) (by decide) rfl ?_
  intro p e s m args below meth c s₁ B hml htab hv
  obtain ⟨rfl, hsz, hP, hK, hD0, hZ⟩ := hv
  have hx := B.exec
  have hb := B.bytes
  have hr := B.returns
  have hts0 := atoms_spec (ws := (pw_ws yX6_setTolerance cX6_setTolerance 6 (some .int))) B.pre
  have hts : ∀ w ∈ pw_all, w.before _ s = true := fun w h => hts0 w (List.mem_cons_of_mem _ h)
  have hown : s.vm.findClass RX6 = some m.cls := findClass_of_methodNamed B.named
  have hlocks := B.notSynchronized
  subst hsz
  have hD := hD0.self (sz := s.heap.size)
  generalize hAe : va_A [(h0, .inr (11, [v0, v1, .ref a, v3, v4, v5, v6, v7])), (a, .inr (4, [w0, w1, .int 0]))] s.heap.size = A at hD hZ ⊢
  have hA : ∀ q : Nat, s.heap.size ≤ q → A q := fun q h => by rw [← hAe]; exact Or.inr h
  have hS : va_S A s.heap s.heap [] := va_S.rf
  have hP : va_P (dC, dI) vwCl [(h0, .inr (11, [v0, v1, .ref a, v3, v4, v5, v6, v7])), (a, .inr (4, [w0, w1, .int 0]))] s.heap := hP
  have hl := lv_entry ([.ref h0, .int p0, .int p1, .int p2]) (n := 6) (Nat.le_of_ble_eq_true rfl)
  rw [lg_entry_eq]
  generalize (lg_sl ([.ref h0, .int p0, .int p1, .int p2]) ++ List.replicate (6 - (lg_sl ([.ref h0, .int p0, .int p1, .int p2])).length) Slot.unset).toArray = ls at hl ⊢
  have hl : lv_has ls 6 [(0, .ref h0), (1, .int p0), (2, .int p1), (3, .int p2)] := hl
  skip
  refine lv_aload_n hx hb dX6_setTolerance_0 rfl (lv_at hl 0 rfl) ?_
  refine lv_iload_n hx hb dX6_setTolerance_1 rfl (lv_at hl 1 rfl) ?_
  have hPc := hP.sub (ws' := [(h0, .inr (11, [v0, v1, .ref a, v3, v4, v5, v6, v7])), (a, .inr (4, [w0, w1, .int 0]))]) [0, 1] rfl
  have hDc := hD.sub (ws' := [(h0, .inr (11, [v0, v1, .ref a, v3, v4, v5, v6, v7])), (a, .inr (4, [w0, w1, .int 0]))]) [0, 1] (by decide) rfl
  have hKc := hK.sub (tys' := []) [] rfl
  have hFc := va_free (wc := [(h0, .inr (11, [v0, v1, .ref a, v3, v4, v5, v6, v7])), (a, .inr (4, [w0, w1, .int 0]))]) hD hS hA [0, 1] rfl
  refine vx_callr (vx_runV (As := [.int p0]) (rest := []) ⟨hx, hb, hml, hown, hts⟩ (m_specificationAt l hl9 dC dI s.heap.size ed h0 a v0 v1 v3 v4 v5 v6 v7 w0 w1 p0) (cwV 1 hts (pw_V q743 q745 q10 q43 q746) rfl rfl rfl (by decide +kernel) ⟨(Nat.le_of_ble_eq_true rfl), (Nat.le_of_ble_eq_true rfl)⟩) ⟨fun a U g mk q => by obtain ⟨q0, q1, qP, qK, qD, qZ⟩ := q; exact ⟨q0, q1, qP, va_K.moved (u := U) (U := U.calling g mk a) (Vm.Alike.refl U.vm) qK, qD, qZ.same rfl⟩, va_recv hKc hPc (ci := 11) (q0 := 0) rfl rfl, fun U hU hW => ⟨rfl, by rw [hU], by rw [hU]; exact hPc, va_K.moved hW.alike hKc, hDc.weaken (fun _ _ _ _ => trivial), hZ.call hS hFc hU hW⟩⟩ rfl rfl hl.1 rfl (lv_room (Nat.le_of_ble_eq_true rfl)) dX6_setTolerance_2 ⟨(Nat.le_of_ble_eq_true rfl), (Nat.le_of_ble_eq_true rfl)⟩) hS (fun q _ h => hFc q h) hFc (fun q _ h => hFc q h) (fun E ce q9 u t H1 locs ht hvm hw hB hz1 hk1 hS hce hcv hcl => ?_) (fun u r_118 t H1 locs ht hvm hw hB hz1 hk1 hS => hw.elim)
  obtain ⟨rfl, hP1, hK1, hD1⟩ := hB
  rw [ht] at hP1
  have hK1 := va_K.moved hvm.symm hK1
  obtain ⟨hP, hD⟩ := va_join (wr := []) (w1 := [(h0, .inr (11, [v0, v1, .ref a, v3, v4, v5, v6, v7])), (a, .inr (4, [w0, w1, .int 0]))]) hP hD [0, 1] [] rfl rfl (by decide) (by decide) hk1 hFc hP1 hD1
  have hK := (hK.sub (tys' := []) [] rfl).app hK1
  generalize H1 = H at hP hS hce ⊢
  have hP : va_P (dC, dI) vwCl [(h0, .inr (11, [v0, v1, .ref a, v3, v4, v5, v6, v7])), (a, .inr (4, [w0, w1, .int 0]))] H := hP
  have hD : va_D A [(h0, .inr (11, [v0, v1, .ref a, v3, v4, v5, v6, v7])), (a, .inr (4, [w0, w1, .int 0]))] := hD
  have hK : va_K (dC, dI) vwCl [] s := hK
  have hP9 := hP.sub (ws' := [(h0, .inr (11, [v0, v1, .ref a, v3, v4, v5, v6, v7])), (a, .inr (4, [w0, w1, .int 0]))]) [0, 1] rfl
  have hD9 := hD.sub (ws' := [(h0, .inr (11, [v0, v1, .ref a, v3, v4, v5, v6, v7])), (a, .inr (4, [w0, w1, .int 0]))]) [0, 1] (by decide) rfl
  have hK9 := hK.sub (tys' := []) [] rfl
  exact vx_out (fun x hx => (htab x hx).elim) hlocks hce hcv hcl (fun t ht ha => ⟨(), trivial, ⟨rfl, by rw [ht]; exact hP9, va_K.moved ha hK9, hD9⟩, hS.F ht⟩) hS.2.2 (Nat.le_of_ble_eq_true rfl) (Nat.le_of_ble_eq_true rfl)
set_option maxHeartbeats 4000000 in
set_option maxRecDepth 100000 in
theorem x_addControl (l : Launch) (hl9 : l.stackTraces = false) (dC : Nat → ClassId) (dI : Nat → Nat → Nat) (sz : Nat) (ed : Nat) (h0 : Nat) (a : Nat) (v0 : Value) (v1 : Value) (v2 : Value) (v4 : Value) (v5 : Value) (v6 : Value) (v7 : Value) (w0 : Value) (w1 : Value) (p0 : Int32) (p1 : Int32) (p2 : Int32) : vx_Met l yX6_addControl (pw_ws yX6_addControl cX6_addControl 6 (some .int)) ({ frames := 7, cells := 1, slots := 6, locals := 121 } : Room) (va_Pc [.ref h0, .int p0, .int p1, .int p2] (fun U => U.heap.size = sz ∧ va_P (dC, dI) vwCl [(h0, .inr (11, [v0, v1, v2, .ref a, v4, v5, v6, v7])), (a, .inr (4, [w0, w1, .int 0]))] U.heap ∧ va_K (dC, dI) vwCl [] U ∧ va_D (fun _ => True) [(h0, .inr (11, [v0, v1, v2, .ref a, v4, v5, v6, v7])), (a, .inr (4, [w0, w1, .int 0]))] ∧ pz ed (va_A [(h0, .inr (11, [v0, v1, v2, .ref a, v4, v5, v6, v7])), (a, .inr (4, [w0, w1, .int 0]))] sz) U U.heap)) (va_Qi (fun (_ : Int32) (_ : Unit) => False) (fun (_ : Unit) (_ : State) => True) (va_A [(h0, .inr (11, [v0, v1, v2, .ref a, v4, v5, v6, v7])), (a, .inr (4, [w0, w1, .int 0]))] sz)) (vx_X px_T (fun (E : String) (_ : Unit) (t : State) => E = "java/lang/IndexOutOfBoundsException" ∧ va_P (dC, dI) vwCl [(h0, .inr (11, [v0, v1, v2, .ref a, v4, v5, v6, v7])), (a, .inr (4, [w0, w1, .int 0]))] t.heap ∧ va_K (dC, dI) vwCl [] t ∧ va_D (va_A [(h0, .inr (11, [v0, v1, v2, .ref a, v4, v5, v6, v7])), (a, .inr (4, [w0, w1, .int 0]))] sz) [(h0, .inr (11, [v0, v1, v2, .ref a, v4, v5, v6, v7])), (a, .inr (4, [w0, w1, .int 0]))]) (va_A [(h0, .inr (11, [v0, v1, v2, .ref a, v4, v5, v6, v7])), (a, .inr (4, [w0, w1, .int 0]))] sz)) 1 6 (va_A [(h0, .inr (11, [v0, v1, v2, .ref a, v4, v5, v6, v7])), (a, .inr (4, [w0, w1, .int 0]))] sz) := by
  refine vx_ofW (cc := cX6_addControl) (maxL := 6) (ret := (some .int)) (by decide) rfl ?_
  intro p e s m args below meth c s₁ B hml htab hv
  obtain ⟨rfl, hsz, hP, hK, hD0, hZ⟩ := hv
  have hx := B.exec
  have hb := B.bytes
  have hr := B.returns
  have hts0 := atoms_spec (ws := (pw_ws yX6_addControl cX6_addControl 6 (some .int))) B.pre
  have hts : ∀ w ∈ pw_all, w.before _ s = true := fun w h => hts0 w (List.mem_cons_of_mem _ h)
  have hown : s.vm.findClass RX6 = some m.cls := findClass_of_methodNamed B.named
  have hlocks := B.notSynchronized
  subst hsz
  have hD := hD0.self (sz := s.heap.size)
  generalize hAe : va_A [(h0, .inr (11, [v0, v1, v2, .ref a, v4, v5, v6, v7])), (a, .inr (4, [w0, w1, .int 0]))] s.heap.size = A at hD hZ ⊢
  have hA : ∀ q : Nat, s.heap.size ≤ q → A q := fun q h => by rw [← hAe]; exact Or.inr h
  have hS : va_S A s.heap s.heap [] := va_S.rf
  have hP : va_P (dC, dI) vwCl [(h0, .inr (11, [v0, v1, v2, .ref a, v4, v5, v6, v7])), (a, .inr (4, [w0, w1, .int 0]))] s.heap := hP
  have hl := lv_entry ([.ref h0, .int p0, .int p1, .int p2]) (n := 6) (Nat.le_of_ble_eq_true rfl)
  rw [lg_entry_eq]
  generalize (lg_sl ([.ref h0, .int p0, .int p1, .int p2]) ++ List.replicate (6 - (lg_sl ([.ref h0, .int p0, .int p1, .int p2])).length) Slot.unset).toArray = ls at hl ⊢
  have hl : lv_has ls 6 [(0, .ref h0), (1, .int p0), (2, .int p1), (3, .int p2)] := hl
  skip
  refine lv_aload_n hx hb dX6_addControl_0 rfl (lv_at hl 0 rfl) ?_
  refine lv_iload_n hx hb dX6_addControl_1 rfl (lv_at hl 1 rfl) ?_
  have hPc := hP.sub (ws' := [(h0, .inr (11, [v0, v1, v2, .ref a, v4, v5, v6, v7])), (a, .inr (4, [w0, w1, .int 0]))]) [0, 1] rfl
  have hDc := hD.sub (ws' := [(h0, .inr (11, [v0, v1, v2, .ref a, v4, v5, v6, v7])), (a, .inr (4, [w0, w1, .int 0]))]) [0, 1] (by decide) rfl
  have hKc := hK.sub (tys' := []) [] rfl
  have hFc := va_free (wc := [(h0, .inr (11, [v0, v1, v2, .ref a, v4, v5, v6, v7])), (a, .inr (4, [w0, w1, .int 0]))]) hD hS hA [0, 1] rfl
  refine vx_callr (vx_runV (As := [.int p0]) (rest := []) ⟨hx, hb, hml, hown, hts⟩ (m_runAt l hl9 dC dI s.heap.size ed h0 a v0 v1 v2 v4 v5 v6 v7 w0 w1 p0) (cwV 1 hts (pw_V q841 q843 q11 q43 q844) rfl rfl rfl (by decide +kernel) ⟨(Nat.le_of_ble_eq_true rfl), (Nat.le_of_ble_eq_true rfl)⟩) ⟨fun a U g mk q => by obtain ⟨q0, q1, qP, qK, qD, qZ⟩ := q; exact ⟨q0, q1, qP, va_K.moved (u := U) (U := U.calling g mk a) (Vm.Alike.refl U.vm) qK, qD, qZ.same rfl⟩, va_recv hKc hPc (ci := 11) (q0 := 0) rfl rfl, fun U hU hW => ⟨rfl, by rw [hU], by rw [hU]; exact hPc, va_K.moved hW.alike hKc, hDc.weaken (fun _ _ _ _ => trivial), hZ.call hS hFc hU hW⟩⟩ rfl rfl hl.1 rfl (lv_room (Nat.le_of_ble_eq_true rfl)) dX6_addControl_2 ⟨(Nat.le_of_ble_eq_true rfl), (Nat.le_of_ble_eq_true rfl)⟩) hS (fun q _ h => hFc q h) hFc (fun q _ h => hFc q h) (fun E ce q9 u t H1 locs ht hvm hw hB hz1 hk1 hS hce hcv hcl => ?_) (fun u r_119 t H1 locs ht hvm hw hB hz1 hk1 hS => hw.elim)
  obtain ⟨rfl, hP1, hK1, hD1⟩ := hB
  rw [ht] at hP1
  have hK1 := va_K.moved hvm.symm hK1
  obtain ⟨hP, hD⟩ := va_join (wr := []) (w1 := [(h0, .inr (11, [v0, v1, v2, .ref a, v4, v5, v6, v7])), (a, .inr (4, [w0, w1, .int 0]))]) hP hD [0, 1] [] rfl rfl (by decide) (by decide) hk1 hFc hP1 hD1
  have hK := (hK.sub (tys' := []) [] rfl).app hK1
  generalize H1 = H at hP hS hce ⊢
  have hP : va_P (dC, dI) vwCl [(h0, .inr (11, [v0, v1, v2, .ref a, v4, v5, v6, v7])), (a, .inr (4, [w0, w1, .int 0]))] H := hP
  have hD : va_D A [(h0, .inr (11, [v0, v1, v2, .ref a, v4, v5, v6, v7])), (a, .inr (4, [w0, w1, .int 0]))] := hD
  have hK : va_K (dC, dI) vwCl [] s := hK
  have hP9 := hP.sub (ws' := [(h0, .inr (11, [v0, v1, v2, .ref a, v4, v5, v6, v7])), (a, .inr (4, [w0, w1, .int 0]))]) [0, 1] rfl
  have hD9 := hD.sub (ws' := [(h0, .inr (11, [v0, v1, v2, .ref a, v4, v5, v6, v7])), (a, .inr (4, [w0, w1, .int 0]))]) [0, 1] (by decide) rfl
  have hK9 := hK.sub (tys' := []) [] rfl
  exact vx_out (fun x hx => (htab x hx).elim) hlocks hce hcv hcl (fun t ht ha => ⟨(), trivial, ⟨rfl, by rw [ht]; exact hP9, va_K.moved ha hK9, hD9⟩, hS.F ht⟩) hS.2.2 (Nat.le_of_ble_eq_true rfl) (Nat.le_of_ble_eq_true rfl)
set_option maxHeartbeats 4000000 in
set_option maxRecDepth 100000 in
theorem x_getBand (l : Launch) (hl9 : l.stackTraces = false) (dC : Nat → ClassId) (dI : Nat → Nat → Nat) (sz : Nat) (ed : Nat) (h0 : Nat) (a : Nat) (v0 : Value) (v1 : Value) (v2 : Value) (v4 : Value) (v5 : Value) (v6 : Value) (v7 : Value) (w0 : Value) (w1 : Value) (p0 : Int32) (p1 : Int32) : vx_Met l yX6_getBand (pw_ws yX6_getBand cX6_getBand 4 (some .int)) ({ frames := 7, cells := 1, slots := 6, locals := 121 } : Room) (va_Pc [.ref h0, .int p0, .int p1] (fun U => U.heap.size = sz ∧ va_P (dC, dI) vwCl [(h0, .inr (11, [v0, v1, v2, .ref a, v4, v5, v6, v7])), (a, .inr (4, [w0, w1, .int 0]))] U.heap ∧ va_K (dC, dI) vwCl [] U ∧ va_D (fun _ => True) [(h0, .inr (11, [v0, v1, v2, .ref a, v4, v5, v6, v7])), (a, .inr (4, [w0, w1, .int 0]))] ∧ pz ed (va_A [(h0, .inr (11, [v0, v1, v2, .ref a, v4, v5, v6, v7])), (a, .inr (4, [w0, w1, .int 0]))] sz) U U.heap)) (va_Qi (fun (_ : Int32) (_ : Unit) => False) (fun (_ : Unit) (_ : State) => True) (va_A [(h0, .inr (11, [v0, v1, v2, .ref a, v4, v5, v6, v7])), (a, .inr (4, [w0, w1, .int 0]))] sz)) (vx_X px_T (fun (E : String) (_ : Unit) (t : State) => E = "java/lang/IndexOutOfBoundsException" ∧ va_P (dC, dI) vwCl [(h0, .inr (11, [v0, v1, v2, .ref a, v4, v5, v6, v7])), (a, .inr (4, [w0, w1, .int 0]))] t.heap ∧ va_K (dC, dI) vwCl [] t ∧ va_D (va_A [(h0, .inr (11, [v0, v1, v2, .ref a, v4, v5, v6, v7])), (a, .inr (4, [w0, w1, .int 0]))] sz) [(h0, .inr (11, [v0, v1, v2, .ref a, v4, v5, v6, v7])), (a, .inr (4, [w0, w1, .int 0]))]) (va_A [(h0, .inr (11, [v0, v1, v2, .ref a, v4, v5, v6, v7])), (a, .inr (4, [w0, w1, .int 0]))] sz)) 1 6 (va_A [(h0, .inr (11, [v0, v1, v2, .ref a, v4, v5, v6, v7])), (a, .inr (4, [w0, w1, .int 0]))] sz) := by
  refine vx_ofW (cc := cX6_getBand) (maxL := 4) (ret := (some .int)) (by decide) rfl ?_
  intro p e s m args below meth c s₁ B hml htab hv
  obtain ⟨rfl, hsz, hP, hK, hD0, hZ⟩ := hv
  have hx := B.exec
  have hb := B.bytes
  have hr := B.returns
  have hts0 := atoms_spec (ws := (pw_ws yX6_getBand cX6_getBand 4 (some .int))) B.pre
  have hts : ∀ w ∈ pw_all, w.before _ s = true := fun w h => hts0 w (List.mem_cons_of_mem _ h)
  have hown : s.vm.findClass RX6 = some m.cls := findClass_of_methodNamed B.named
  have hlocks := B.notSynchronized
  subst hsz
  have hD := hD0.self (sz := s.heap.size)
  generalize hAe : va_A [(h0, .inr (11, [v0, v1, v2, .ref a, v4, v5, v6, v7])), (a, .inr (4, [w0, w1, .int 0]))] s.heap.size = A at hD hZ ⊢
  have hA : ∀ q : Nat, s.heap.size ≤ q → A q := fun q h => by rw [← hAe]; exact Or.inr h
  have hS : va_S A s.heap s.heap [] := va_S.rf
  have hP : va_P (dC, dI) vwCl [(h0, .inr (11, [v0, v1, v2, .ref a, v4, v5, v6, v7])), (a, .inr (4, [w0, w1, .int 0]))] s.heap := hP
  have hl := lv_entry ([.ref h0, .int p0, .int p1]) (n := 4) (Nat.le_of_ble_eq_true rfl)
  rw [lg_entry_eq]
  generalize (lg_sl ([.ref h0, .int p0, .int p1]) ++ List.replicate (4 - (lg_sl ([.ref h0, .int p0, .int p1])).length) Slot.unset).toArray = ls at hl ⊢
  have hl : lv_has ls 4 [(0, .ref h0), (1, .int p0), (2, .int p1)] := hl
  skip
  refine lv_aload_n hx hb dX6_getBand_0 rfl (lv_at hl 0 rfl) ?_
  refine lv_iload_n hx hb dX6_getBand_1 rfl (lv_at hl 1 rfl) ?_
  have hPc := hP.sub (ws' := [(h0, .inr (11, [v0, v1, v2, .ref a, v4, v5, v6, v7])), (a, .inr (4, [w0, w1, .int 0]))]) [0, 1] rfl
  have hDc := hD.sub (ws' := [(h0, .inr (11, [v0, v1, v2, .ref a, v4, v5, v6, v7])), (a, .inr (4, [w0, w1, .int 0]))]) [0, 1] (by decide) rfl
  have hKc := hK.sub (tys' := []) [] rfl
  have hFc := va_free (wc := [(h0, .inr (11, [v0, v1, v2, .ref a, v4, v5, v6, v7])), (a, .inr (4, [w0, w1, .int 0]))]) hD hS hA [0, 1] rfl
  refine vx_callr (vx_runV (As := [.int p0]) (rest := []) ⟨hx, hb, hml, hown, hts⟩ (m_runAt l hl9 dC dI s.heap.size ed h0 a v0 v1 v2 v4 v5 v6 v7 w0 w1 p0) (cwV 1 hts (pw_V q841 q843 q11 q43 q844) rfl rfl rfl (by decide +kernel) ⟨(Nat.le_of_ble_eq_true rfl), (Nat.le_of_ble_eq_true rfl)⟩) ⟨fun a U g mk q => by obtain ⟨q0, q1, qP, qK, qD, qZ⟩ := q; exact ⟨q0, q1, qP, va_K.moved (u := U) (U := U.calling g mk a) (Vm.Alike.refl U.vm) qK, qD, qZ.same rfl⟩, va_recv hKc hPc (ci := 11) (q0 := 0) rfl rfl, fun U hU hW => ⟨rfl, by rw [hU], by rw [hU]; exact hPc, va_K.moved hW.alike hKc, hDc.weaken (fun _ _ _ _ => trivial), hZ.call hS hFc hU hW⟩⟩ rfl rfl hl.1 rfl (lv_room (Nat.le_of_ble_eq_true rfl)) dX6_getBand_2 ⟨(Nat.le_of_ble_eq_true rfl), (Nat.le_of_ble_eq_true rfl)⟩) hS (fun q _ h => hFc q h) hFc (fun q _ h => hFc q h) (fun E ce q9 u t H1 locs ht hvm hw hB hz1 hk1 hS hce hcv hcl => ?_) (fun u r_120 t H1 locs ht hvm hw hB hz1 hk1 hS => hw.elim)
  obtain ⟨rfl, hP1, hK1, hD1⟩ := hB
  rw [ht] at hP1
  have hK1 := va_K.moved hvm.symm hK1
  obtain ⟨hP, hD⟩ := va_join (wr := []) (w1 := [(h0, .inr (11, [v0, v1, v2, .ref a, v4, v5, v6, v7])), (a, .inr (4, [w0, w1, .int 0]))]) hP hD [0, 1] [] rfl rfl (by decide) (by decide) hk1 hFc hP1 hD1
  have hK := (hK.sub (tys' := []) [] rfl).app hK1
  generalize H1 = H at hP hS hce ⊢
  have hP : va_P (dC, dI) vwCl [(h0, .inr (11, [v0, v1, v2, .ref a, v4, v5, v6, v7])), (a, .inr (4, [w0, w1, .int 0]))] H := hP
  have hD : va_D A [(h0, .inr (11, [v0, v1, v2, .ref a, v4, v5, v6, v7])), (a, .inr (4, [w0, w1, .int 0]))] := hD
  have hK : va_K (dC, dI) vwCl [] s := hK
  have hP9 := hP.sub (ws' := [(h0, .inr (11, [v0, v1, v2, .ref a, v4, v5, v6, v7])), (a, .inr (4, [w0, w1, .int 0]))]) [0, 1] rfl
  have hD9 := hD.sub (ws' := [(h0, .inr (11, [v0, v1, v2, .ref a, v4, v5, v6, v7])), (a, .inr (4, [w0, w1, .int 0]))]) [0, 1] (by decide) rfl
  have hK9 := hK.sub (tys' := []) [] rfl
  exact vx_out (fun x hx => (htab x hx).elim) hlocks hce hcv hcl (fun t ht ha => ⟨(), trivial, ⟨rfl, by rw [ht]; exact hP9, va_K.moved ha hK9, hD9⟩, hS.F ht⟩) hS.2.2 (Nat.le_of_ble_eq_true rfl) (Nat.le_of_ble_eq_true rfl)
set_option maxHeartbeats 4000000 in
set_option maxRecDepth 100000 in
theorem x_getDue (l : Launch) (hl9 : l.stackTraces = false) (dC : Nat → ClassId) (dI : Nat → Nat → Nat) (sz : Nat) (ed : Nat) (h0 : Nat) (a : Nat) (v0 : Value) (v1 : Value) (v2 : Value) (v4 : Value) (v5 : Value) (v6 : Value) (v7 : Value) (w0 : Value) (w1 : Value) (p0 : Int32) (p1 : Int32) : vx_Met l yX6_getDue (pw_ws yX6_getDue cX6_getDue 4 (some .int)) ({ frames := 7, cells := 1, slots := 6, locals := 121 } : Room) (va_Pc [.ref h0, .int p0, .int p1] (fun U => U.heap.size = sz ∧ va_P (dC, dI) vwCl [(h0, .inr (11, [v0, v1, v2, .ref a, v4, v5, v6, v7])), (a, .inr (4, [w0, w1, .int 0]))] U.heap ∧ va_K (dC, dI) vwCl [] U ∧ va_D (fun _ => True) [(h0, .inr (11, [v0, v1, v2, .ref a, v4, v5, v6, v7])), (a, .inr (4, [w0, w1, .int 0]))] ∧ pz ed (va_A [(h0, .inr (11, [v0, v1, v2, .ref a, v4, v5, v6, v7])), (a, .inr (4, [w0, w1, .int 0]))] sz) U U.heap)) (va_Qi (fun (_ : Int32) (_ : Unit) => False) (fun (_ : Unit) (_ : State) => True) (va_A [(h0, .inr (11, [v0, v1, v2, .ref a, v4, v5, v6, v7])), (a, .inr (4, [w0, w1, .int 0]))] sz)) (vx_X px_T (fun (E : String) (_ : Unit) (t : State) => E = "java/lang/IndexOutOfBoundsException" ∧ va_P (dC, dI) vwCl [(h0, .inr (11, [v0, v1, v2, .ref a, v4, v5, v6, v7])), (a, .inr (4, [w0, w1, .int 0]))] t.heap ∧ va_K (dC, dI) vwCl [] t ∧ va_D (va_A [(h0, .inr (11, [v0, v1, v2, .ref a, v4, v5, v6, v7])), (a, .inr (4, [w0, w1, .int 0]))] sz) [(h0, .inr (11, [v0, v1, v2, .ref a, v4, v5, v6, v7])), (a, .inr (4, [w0, w1, .int 0]))]) (va_A [(h0, .inr (11, [v0, v1, v2, .ref a, v4, v5, v6, v7])), (a, .inr (4, [w0, w1, .int 0]))] sz)) 1 6 (va_A [(h0, .inr (11, [v0, v1, v2, .ref a, v4, v5, v6, v7])), (a, .inr (4, [w0, w1, .int 0]))] sz) := by
  refine vx_ofW (cc := cX6_getDue) (maxL := 4) (ret := (some .int)) (by decide) rfl ?_
  intro p e s m args below meth c s₁ B hml htab hv
  obtain ⟨rfl, hsz, hP, hK, hD0, hZ⟩ := hv
  have hx := B.exec
  have hb := B.bytes
  have hr := B.returns
  have hts0 := atoms_spec (ws := (pw_ws yX6_getDue cX6_getDue 4 (some .int))) B.pre
  have hts : ∀ w ∈ pw_all, w.before _ s = true := fun w h => hts0 w (List.mem_cons_of_mem _ h)
  have hown : s.vm.findClass RX6 = some m.cls := findClass_of_methodNamed B.named
  have hlocks := B.notSynchronized
  subst hsz
  have hD := hD0.self (sz := s.heap.size)
  generalize hAe : va_A [(h0, .inr (11, [v0, v1, v2, .ref a, v4, v5, v6, v7])), (a, .inr (4, [w0, w1, .int 0]))] s.heap.size = A at hD hZ ⊢
  have hA : ∀ q : Nat, s.heap.size ≤ q → A q := fun q h => by rw [← hAe]; exact Or.inr h
  have hS : va_S A s.heap s.heap [] := va_S.rf
  have hP : va_P (dC, dI) vwCl [(h0, .inr (11, [v0, v1, v2, .ref a, v4, v5, v6, v7])), (a, .inr (4, [w0, w1, .int 0]))] s.heap := hP
  have hl := lv_entry ([.ref h0, .int p0, .int p1]) (n := 4) (Nat.le_of_ble_eq_true rfl)
  rw [lg_entry_eq]
  generalize (lg_sl ([.ref h0, .int p0, .int p1]) ++ List.replicate (4 - (lg_sl ([.ref h0, .int p0, .int p1])).length) Slot.unset).toArray = ls at hl ⊢
  have hl : lv_has ls 4 [(0, .ref h0), (1, .int p0), (2, .int p1)] := hl
  skip
  refine lv_aload_n hx hb dX6_getDue_0 rfl (lv_at hl 0 rfl) ?_
  refine lv_iload_n hx hb dX6_getDue_1 rfl (lv_at hl 1 rfl) ?_
  have hPc := hP.sub (ws' := [(h0, .inr (11, [v0, v1, v2, .ref a, v4, v5, v6, v7])), (a, .inr (4, [w0, w1, .int 0]))]) [0, 1] rfl
  have hDc := hD.sub (ws' := [(h0, .inr (11, [v0, v1, v2, .ref a, v4, v5, v6, v7])), (a, .inr (4, [w0, w1, .int 0]))]) [0, 1] (by decide) rfl
  have hKc := hK.sub (tys' := []) [] rfl
  have hFc := va_free (wc := [(h0, .inr (11, [v0, v1, v2, .ref a, v4, v5, v6, v7])), (a, .inr (4, [w0, w1, .int 0]))]) hD hS hA [0, 1] rfl
  refine vx_callr (vx_runV (As := [.int p0]) (rest := []) ⟨hx, hb, hml, hown, hts⟩ (m_runAt l hl9 dC dI s.heap.size ed h0 a v0 v1 v2 v4 v5 v6 v7 w0 w1 p0) (cwV 1 hts (pw_V q841 q843 q11 q43 q844) rfl rfl rfl (by decide +kernel) ⟨(Nat.le_of_ble_eq_true rfl), (Nat.le_of_ble_eq_true rfl)⟩) ⟨fun a U g mk q => by obtain ⟨q0, q1, qP, qK, qD, qZ⟩ := q; exact ⟨q0, q1, qP, va_K.moved (u := U) (U := U.calling g mk a) (Vm.Alike.refl U.vm) qK, qD, qZ.same rfl⟩, va_recv hKc hPc (ci := 11) (q0 := 0) rfl rfl, fun U hU hW => ⟨rfl, by rw [hU], by rw [hU]; exact hPc, va_K.moved hW.alike hKc, hDc.weaken (fun _ _ _ _ => trivial), hZ.call hS hFc hU hW⟩⟩ rfl rfl hl.1 rfl (lv_room (Nat.le_of_ble_eq_true rfl)) dX6_getDue_2 ⟨(Nat.le_of_ble_eq_true rfl), (Nat.le_of_ble_eq_true rfl)⟩) hS (fun q _ h => hFc q h) hFc (fun q _ h => hFc q h) (fun E ce q9 u t H1 locs ht hvm hw hB hz1 hk1 hS hce hcv hcl => ?_) (fun u r_121 t H1 locs ht hvm hw hB hz1 hk1 hS => hw.elim)
  obtain ⟨rfl, hP1, hK1, hD1⟩ := hB
  rw [ht] at hP1
  have hK1 := va_K.moved hvm.symm hK1
  obtain ⟨hP, hD⟩ := va_join (wr := []) (w1 := [(h0, .inr (11, [v0, v1, v2, .ref a, v4, v5, v6, v7])), (a, .inr (4, [w0, w1, .int 0]))]) hP hD [0, 1] [] rfl rfl (by decide) (by decide) hk1 hFc hP1 hD1
  have hK := (hK.sub (tys' := []) [] rfl).app hK1
  generalize H1 = H at hP hS hce ⊢
  have hP : va_P (dC, dI) vwCl [(h0, .inr (11, [v0, v1, v2, .ref a, v4, v5, v6, v7])), (a, .inr (4, [w0, w1, .int 0]))] H := hP
  have hD : va_D A [(h0, .inr (11, [v0, v1, v2, .ref a, v4, v5, v6, v7])), (a, .inr (4, [w0, w1, .int 0]))] := hD
  have hK : va_K (dC, dI) vwCl [] s := hK
  have hP9 := hP.sub (ws' := [(h0, .inr (11, [v0, v1, v2, .ref a, v4, v5, v6, v7])), (a, .inr (4, [w0, w1, .int 0]))]) [0, 1] rfl
  have hD9 := hD.sub (ws' := [(h0, .inr (11, [v0, v1, v2, .ref a, v4, v5, v6, v7])), (a, .inr (4, [w0, w1, .int 0]))]) [0, 1] (by decide) rfl
  have hK9 := hK.sub (tys' := []) [] rfl
  exact vx_out (fun x hx => (htab x hx).elim) hlocks hce hcv hcl (fun t ht ha => ⟨(), trivial, ⟨rfl, by rw [ht]; exact hP9, va_K.moved ha hK9, hD9⟩, hS.F ht⟩) hS.2.2 (Nat.le_of_ble_eq_true rfl) (Nat.le_of_ble_eq_true rfl)
set_option maxHeartbeats 4000000 in
set_option maxRecDepth 100000 in
theorem x_isInBand (l : Launch) (hl9 : l.stackTraces = false) (dC : Nat → ClassId) (dI : Nat → Nat → Nat) (sz : Nat) (ed : Nat) (h0 : Nat) (a : Nat) (v0 : Value) (v1 : Value) (v2 : Value) (v4 : Value) (v5 : Value) (v6 : Value) (v7 : Value) (w0 : Value) (w1 : Value) (p0 : Int32) (p1 : Int32) : vx_Met l yX6_isInBand (pw_ws yX6_isInBand cX6_isInBand 4 (some .boolean)) ({ frames := 7, cells := 1, slots := 6, locals := 121 } : Room) (va_Pc [.ref h0, .int p0, .int p1] (fun U => U.heap.size = sz ∧ va_P (dC, dI) vwCl [(h0, .inr (11, [v0, v1, v2, .ref a, v4, v5, v6, v7])), (a, .inr (4, [w0, w1, .int 0]))] U.heap ∧ va_K (dC, dI) vwCl [] U ∧ va_D (fun _ => True) [(h0, .inr (11, [v0, v1, v2, .ref a, v4, v5, v6, v7])), (a, .inr (4, [w0, w1, .int 0]))] ∧ pz ed (va_A [(h0, .inr (11, [v0, v1, v2, .ref a, v4, v5, v6, v7])), (a, .inr (4, [w0, w1, .int 0]))] sz) U U.heap)) (va_Qi (fun (_ : Int32) (_ : Unit) => False) (fun (_ : Unit) (_ : State) => True) (va_A [(h0, .inr (11, [v0, v1, v2, .ref a, v4, v5, v6, v7])), (a, .inr (4, [w0, w1, .int 0]))] sz)) (vx_X px_T (fun (E : String) (_ : Unit) (t : State) => E = "java/lang/IndexOutOfBoundsException" ∧ va_P (dC, dI) vwCl [(h0, .inr (11, [v0, v1, v2, .ref a, v4, v5, v6, v7])), (a, .inr (4, [w0, w1, .int 0]))] t.heap ∧ va_K (dC, dI) vwCl [] t ∧ va_D (va_A [(h0, .inr (11, [v0, v1, v2, .ref a, v4, v5, v6, v7])), (a, .inr (4, [w0, w1, .int 0]))] sz) [(h0, .inr (11, [v0, v1, v2, .ref a, v4, v5, v6, v7])), (a, .inr (4, [w0, w1, .int 0]))]) (va_A [(h0, .inr (11, [v0, v1, v2, .ref a, v4, v5, v6, v7])), (a, .inr (4, [w0, w1, .int 0]))] sz)) 1 6 (va_A [(h0, .inr (11, [v0, v1, v2, .ref a, v4, v5, v6, v7])), (a, .inr (4, [w0, w1, .int 0]))] sz) := by
  refine vx_ofW (cc := cX6_isInBand) (maxL := 4) (ret := (some .boolean)) (by decide) rfl ?_
  intro p e s m args below meth c s₁ B hml htab hv
  obtain ⟨rfl, hsz, hP, hK, hD0, hZ⟩ := hv
  have hx := B.exec
  have hb := B.bytes
  have hr := B.returns
  have hts0 := atoms_spec (ws := (pw_ws yX6_isInBand cX6_isInBand 4 (some .boolean))) B.pre
  have hts : ∀ w ∈ pw_all, w.before _ s = true := fun w h => hts0 w (List.mem_cons_of_mem _ h)
  have hown : s.vm.findClass RX6 = some m.cls := findClass_of_methodNamed B.named
  have hlocks := B.notSynchronized
  subst hsz
  have hD := hD0.self (sz := s.heap.size)
  generalize hAe : va_A [(h0, .inr (11, [v0, v1, v2, .ref a, v4, v5, v6, v7])), (a, .inr (4, [w0, w1, .int 0]))] s.heap.size = A at hD hZ ⊢
  have hA : ∀ q : Nat, s.heap.size ≤ q → A q := fun q h => by rw [← hAe]; exact Or.inr h
  have hS : va_S A s.heap s.heap [] := va_S.rf
  have hP : va_P (dC, dI) vwCl [(h0, .inr (11, [v0, v1, v2, .ref a, v4, v5, v6, v7])), (a, .inr (4, [w0, w1, .int 0]))] s.heap := hP
  have hl := lv_entry ([.ref h0, .int p0, .int p1]) (n := 4) (Nat.le_of_ble_eq_true rfl)
  rw [lg_entry_eq]
  generalize (lg_sl ([.ref h0, .int p0, .int p1]) ++ List.replicate (4 - (lg_sl ([.ref h0, .int p0, .int p1])).length) Slot.unset).toArray = ls at hl ⊢
  have hl : lv_has ls 4 [(0, .ref h0), (1, .int p0), (2, .int p1)] := hl
  skip
  refine lv_aload_n hx hb dX6_isInBand_0 rfl (lv_at hl 0 rfl) ?_
  refine lv_iload_n hx hb dX6_isInBand_1 rfl (lv_at hl 1 rfl) ?_
  have hPc := hP.sub (ws' := [(h0, .inr (11, [v0, v1, v2, .ref a, v4, v5, v6, v7])), (a, .inr (4, [w0, w1, .int 0]))]) [0, 1] rfl
  have hDc := hD.sub (ws' := [(h0, .inr (11, [v0, v1, v2, .ref a, v4, v5, v6, v7])), (a, .inr (4, [w0, w1, .int 0]))]) [0, 1] (by decide) rfl
  have hKc := hK.sub (tys' := []) [] rfl
  have hFc := va_free (wc := [(h0, .inr (11, [v0, v1, v2, .ref a, v4, v5, v6, v7])), (a, .inr (4, [w0, w1, .int 0]))]) hD hS hA [0, 1] rfl
  refine vx_callr (vx_runV (As := [.int p0]) (rest := []) ⟨hx, hb, hml, hown, hts⟩ (m_runAt l hl9 dC dI s.heap.size ed h0 a v0 v1 v2 v4 v5 v6 v7 w0 w1 p0) (cwV 1 hts (pw_V q841 q843 q11 q43 q844) rfl rfl rfl (by decide +kernel) ⟨(Nat.le_of_ble_eq_true rfl), (Nat.le_of_ble_eq_true rfl)⟩) ⟨fun a U g mk q => by obtain ⟨q0, q1, qP, qK, qD, qZ⟩ := q; exact ⟨q0, q1, qP, va_K.moved (u := U) (U := U.calling g mk a) (Vm.Alike.refl U.vm) qK, qD, qZ.same rfl⟩, va_recv hKc hPc (ci := 11) (q0 := 0) rfl rfl, fun U hU hW => ⟨rfl, by rw [hU], by rw [hU]; exact hPc, va_K.moved hW.alike hKc, hDc.weaken (fun _ _ _ _ => trivial), hZ.call hS hFc hU hW⟩⟩ rfl rfl hl.1 rfl (lv_room (Nat.le_of_ble_eq_true rfl)) dX6_isInBand_2 ⟨(Nat.le_of_ble_eq_true rfl), (Nat.le_of_ble_eq_true rfl)⟩) hS (fun q _ h => hFc q h) hFc (fun q _ h => hFc q h) (fun E ce q9 u t H1 locs ht hvm hw hB hz1 hk1 hS hce hcv hcl => ?_) (fun u r_122 t H1 locs ht hvm hw hB hz1 hk1 hS => hw.elim)
  obtain ⟨rfl, hP1, hK1, hD1⟩ := hB
  rw [ht] at hP1
  have hK1 := va_K.moved hvm.symm hK1
  obtain ⟨hP, hD⟩ := va_join (wr := []) (w1 := [(h0, .inr (11, [v0, v1, v2, .ref a, v4, v5, v6, v7])), (a, .inr (4, [w0, w1, .int 0]))]) hP hD [0, 1] [] rfl rfl (by decide) (by decide) hk1 hFc hP1 hD1
  have hK := (hK.sub (tys' := []) [] rfl).app hK1
  generalize H1 = H at hP hS hce ⊢
  have hP : va_P (dC, dI) vwCl [(h0, .inr (11, [v0, v1, v2, .ref a, v4, v5, v6, v7])), (a, .inr (4, [w0, w1, .int 0]))] H := hP
  have hD : va_D A [(h0, .inr (11, [v0, v1, v2, .ref a, v4, v5, v6, v7])), (a, .inr (4, [w0, w1, .int 0]))] := hD
  have hK : va_K (dC, dI) vwCl [] s := hK
  have hP9 := hP.sub (ws' := [(h0, .inr (11, [v0, v1, v2, .ref a, v4, v5, v6, v7])), (a, .inr (4, [w0, w1, .int 0]))]) [0, 1] rfl
  have hD9 := hD.sub (ws' := [(h0, .inr (11, [v0, v1, v2, .ref a, v4, v5, v6, v7])), (a, .inr (4, [w0, w1, .int 0]))]) [0, 1] (by decide) rfl
  have hK9 := hK.sub (tys' := []) [] rfl
  exact vx_out (fun x hx => (htab x hx).elim) hlocks hce hcv hcl (fun t ht ha => ⟨(), trivial, ⟨rfl, by rw [ht]; exact hP9, va_K.moved ha hK9, hD9⟩, hS.F ht⟩) hS.2.2 (Nat.le_of_ble_eq_true rfl) (Nat.le_of_ble_eq_true rfl)
set_option maxHeartbeats 4000000 in
set_option maxRecDepth 100000 in
theorem x_getDrive (l : Launch) (hl9 : l.stackTraces = false) (dC : Nat → ClassId) (dI : Nat → Nat → Nat) (sz : Nat) (ed : Nat) (h0 : Nat) (a : Nat) (v0 : Value) (v1 : Value) (v2 : Value) (v4 : Value) (v5 : Value) (v6 : Value) (v7 : Value) (w0 : Value) (w1 : Value) (p0 : Int32) (p1 : Int32) : vx_Met l yX6_getDrive (pw_ws yX6_getDrive cX6_getDrive 4 (some .int)) ({ frames := 7, cells := 1, slots := 6, locals := 121 } : Room) (va_Pc [.ref h0, .int p0, .int p1] (fun U => U.heap.size = sz ∧ va_P (dC, dI) vwCl [(h0, .inr (11, [v0, v1, v2, .ref a, v4, v5, v6, v7])), (a, .inr (4, [w0, w1, .int 0]))] U.heap ∧ va_K (dC, dI) vwCl [] U ∧ va_D (fun _ => True) [(h0, .inr (11, [v0, v1, v2, .ref a, v4, v5, v6, v7])), (a, .inr (4, [w0, w1, .int 0]))] ∧ pz ed (va_A [(h0, .inr (11, [v0, v1, v2, .ref a, v4, v5, v6, v7])), (a, .inr (4, [w0, w1, .int 0]))] sz) U U.heap)) (va_Qi (fun (_ : Int32) (_ : Unit) => False) (fun (_ : Unit) (_ : State) => True) (va_A [(h0, .inr (11, [v0, v1, v2, .ref a, v4, v5, v6, v7])), (a, .inr (4, [w0, w1, .int 0]))] sz)) (vx_X px_T (fun (E : String) (_ : Unit) (t : State) => E = "java/lang/IndexOutOfBoundsException" ∧ va_P (dC, dI) vwCl [(h0, .inr (11, [v0, v1, v2, .ref a, v4, v5, v6, v7])), (a, .inr (4, [w0, w1, .int 0]))] t.heap ∧ va_K (dC, dI) vwCl [] t ∧ va_D (va_A [(h0, .inr (11, [v0, v1, v2, .ref a, v4, v5, v6, v7])), (a, .inr (4, [w0, w1, .int 0]))] sz) [(h0, .inr (11, [v0, v1, v2, .ref a, v4, v5, v6, v7])), (a, .inr (4, [w0, w1, .int 0]))]) (va_A [(h0, .inr (11, [v0, v1, v2, .ref a, v4, v5, v6, v7])), (a, .inr (4, [w0, w1, .int 0]))] sz)) 1 6 (va_A [(h0, .inr (11, [v0, v1, v2, .ref a, v4, v5, v6, v7])), (a, .inr (4, [w0, w1, .int 0]))] sz) := by
  refine vx_ofW (cc := cX6_getDrive) (maxL := 4) (ret := (some .int)) (by decide) rfl ?_
  intro p e s m args below meth c s₁ B hml htab hv
  obtain ⟨rfl, hsz, hP, hK, hD0, hZ⟩ := hv
  have hx := B.exec
  have hb := B.bytes
  have hr := B.returns
  have hts0 := atoms_spec (ws := (pw_ws yX6_getDrive cX6_getDrive 4 (some .int))) B.pre
  have hts : ∀ w ∈ pw_all, w.before _ s = true := fun w h => hts0 w (List.mem_cons_of_mem _ h)
  have hown : s.vm.findClass RX6 = some m.cls := findClass_of_methodNamed B.named
  have hlocks := B.notSynchronized
  subst hsz
  have hD := hD0.self (sz := s.heap.size)
  generalize hAe : va_A [(h0, .inr (11, [v0, v1, v2, .ref a, v4, v5, v6, v7])), (a, .inr (4, [w0, w1, .int 0]))] s.heap.size = A at hD hZ ⊢
  have hA : ∀ q : Nat, s.heap.size ≤ q → A q := fun q h => by rw [← hAe]; exact Or.inr h
  have hS : va_S A s.heap s.heap [] := va_S.rf
  have hP : va_P (dC, dI) vwCl [(h0, .inr (11, [v0, v1, v2, .ref a, v4, v5, v6, v7])), (a, .inr (4, [w0, w1, .int 0]))] s.heap := hP
  have hl := lv_entry ([.ref h0, .int p0, .int p1]) (n := 4) (Nat.le_of_ble_eq_true rfl)
  rw [lg_entry_eq]
  generalize (lg_sl ([.ref h0, .int p0, .int p1]) ++ List.replicate (4 - (lg_sl ([.ref h0, .int p0, .int p1])).length) Slot.unset).toArray = ls at hl ⊢
  have hl : lv_has ls 4 [(0, .ref h0), (1, .int p0), (2, .int p1)] := hl
  skip
  refine lv_aload_n hx hb dX6_getDrive_0 rfl (lv_at hl 0 rfl) ?_
  refine lv_iload_n hx hb dX6_getDrive_1 rfl (lv_at hl 1 rfl) ?_
  have hPc := hP.sub (ws' := [(h0, .inr (11, [v0, v1, v2, .ref a, v4, v5, v6, v7])), (a, .inr (4, [w0, w1, .int 0]))]) [0, 1] rfl
  have hDc := hD.sub (ws' := [(h0, .inr (11, [v0, v1, v2, .ref a, v4, v5, v6, v7])), (a, .inr (4, [w0, w1, .int 0]))]) [0, 1] (by decide) rfl
  have hKc := hK.sub (tys' := []) [] rfl
  have hFc := va_free (wc := [(h0, .inr (11, [v0, v1, v2, .ref a, v4, v5, v6, v7])), (a, .inr (4, [w0, w1, .int 0]))]) hD hS hA [0, 1] rfl
  refine vx_callr (vx_runV (As := [.int p0]) (rest := []) ⟨hx, hb, hml, hown, hts⟩ (m_runAt l hl9 dC dI s.heap.size ed h0 a v0 v1 v2 v4 v5 v6 v7 w0 w1 p0) (cwV 1 hts (pw_V q841 q843 q11 q43 q844) rfl rfl rfl (by decide +kernel) ⟨(Nat.le_of_ble_eq_true rfl), (Nat.le_of_ble_eq_true rfl)⟩) ⟨fun a U g mk q => by obtain ⟨q0, q1, qP, qK, qD, qZ⟩ := q; exact ⟨q0, q1, qP, va_K.moved (u := U) (U := U.calling g mk a) (Vm.Alike.refl U.vm) qK, qD, qZ.same rfl⟩, va_recv hKc hPc (ci := 11) (q0 := 0) rfl rfl, fun U hU hW => ⟨rfl, by rw [hU], by rw [hU]; exact hPc, va_K.moved hW.alike hKc, hDc.weaken (fun _ _ _ _ => trivial), hZ.call hS hFc hU hW⟩⟩ rfl rfl hl.1 rfl (lv_room (Nat.le_of_ble_eq_true rfl)) dX6_getDrive_2 ⟨(Nat.le_of_ble_eq_true rfl), (Nat.le_of_ble_eq_true rfl)⟩) hS (fun q _ h => hFc q h) hFc (fun q _ h => hFc q h) (fun E ce q9 u t H1 locs ht hvm hw hB hz1 hk1 hS hce hcv hcl => ?_) (fun u r_123 t H1 locs ht hvm hw hB hz1 hk1 hS => hw.elim)
  obtain ⟨rfl, hP1, hK1, hD1⟩ := hB
  rw [ht] at hP1
  have hK1 := va_K.moved hvm.symm hK1
  obtain ⟨hP, hD⟩ := va_join (wr := []) (w1 := [(h0, .inr (11, [v0, v1, v2, .ref a, v4, v5, v6, v7])), (a, .inr (4, [w0, w1, .int 0]))]) hP hD [0, 1] [] rfl rfl (by decide) (by decide) hk1 hFc hP1 hD1
  have hK := (hK.sub (tys' := []) [] rfl).app hK1
  generalize H1 = H at hP hS hce ⊢
  have hP : va_P (dC, dI) vwCl [(h0, .inr (11, [v0, v1, v2, .ref a, v4, v5, v6, v7])), (a, .inr (4, [w0, w1, .int 0]))] H := hP
  have hD : va_D A [(h0, .inr (11, [v0, v1, v2, .ref a, v4, v5, v6, v7])), (a, .inr (4, [w0, w1, .int 0]))] := hD
  have hK : va_K (dC, dI) vwCl [] s := hK
  have hP9 := hP.sub (ws' := [(h0, .inr (11, [v0, v1, v2, .ref a, v4, v5, v6, v7])), (a, .inr (4, [w0, w1, .int 0]))]) [0, 1] rfl
  have hD9 := hD.sub (ws' := [(h0, .inr (11, [v0, v1, v2, .ref a, v4, v5, v6, v7])), (a, .inr (4, [w0, w1, .int 0]))]) [0, 1] (by decide) rfl
  have hK9 := hK.sub (tys' := []) [] rfl
  exact vx_out (fun x hx => (htab x hx).elim) hlocks hce hcv hcl (fun t ht ha => ⟨(), trivial, ⟨rfl, by rw [ht]; exact hP9, va_K.moved ha hK9, hD9⟩, hS.F ht⟩) hS.2.2 (Nat.le_of_ble_eq_true rfl) (Nat.le_of_ble_eq_true rfl)
set_option maxHeartbeats 4000000 in
set_option maxRecDepth 100000 in
theorem x_turnLoop (l : Launch) (hl9 : l.stackTraces = false) (dC : Nat → ClassId) (dI : Nat → Nat → Nat) (sz : Nat) (ed : Nat) (h0 : Nat) (a : Nat) (v0 : Value) (v1 : Value) (v2 : Value) (v4 : Value) (v5 : Value) (v6 : Value) (v7 : Value) (w0 : Value) (w1 : Value) (p0 : Int32) : vx_Met l yX6_turnLoop (pw_ws yX6_turnLoop cX6_turnLoop 3 (some .int)) ({ frames := 7, cells := 1, slots := 6, locals := 121 } : Room) (va_Pc [.ref h0, .int p0] (fun U => U.heap.size = sz ∧ va_P (dC, dI) vwCl [(h0, .inr (11, [v0, v1, v2, .ref a, v4, v5, v6, v7])), (a, .inr (4, [w0, w1, .int 0]))] U.heap ∧ va_K (dC, dI) vwCl [] U ∧ va_D (fun _ => True) [(h0, .inr (11, [v0, v1, v2, .ref a, v4, v5, v6, v7])), (a, .inr (4, [w0, w1, .int 0]))] ∧ pz ed (va_A [(h0, .inr (11, [v0, v1, v2, .ref a, v4, v5, v6, v7])), (a, .inr (4, [w0, w1, .int 0]))] sz) U U.heap)) (va_Qi (fun (_ : Int32) (_ : Unit) => False) (fun (_ : Unit) (_ : State) => True) (va_A [(h0, .inr (11, [v0, v1, v2, .ref a, v4, v5, v6, v7])), (a, .inr (4, [w0, w1, .int 0]))] sz)) (vx_X px_T (fun (E : String) (_ : Unit) (t : State) => E = "java/lang/IndexOutOfBoundsException" ∧ va_P (dC, dI) vwCl [(h0, .inr (11, [v0, v1, v2, .ref a, v4, v5, v6, v7])), (a, .inr (4, [w0, w1, .int 0]))] t.heap ∧ va_K (dC, dI) vwCl [] t ∧ va_D (va_A [(h0, .inr (11, [v0, v1, v2, .ref a, v4, v5, v6, v7])), (a, .inr (4, [w0, w1, .int 0]))] sz) [(h0, .inr (11, [v0, v1, v2, .ref a, v4, v5, v6, v7])), (a, .inr (4, [w0, w1, .int 0]))]) (va_A [(h0, .inr (11, [v0, v1, v2, .ref a, v4, v5, v6, v7])), (a, .inr (4, [w0, w1, .int 0]))] sz)) 1 6 (va_A [(h0, .inr (11, [v0, v1, v2, .ref a, v4, v5, v6, v7])), (a, .inr (4, [w0, w1, .int 0]))] sz) := by
  refine vx_ofW (cc := cX6_turnLoop) (maxL := 3) (ret := (some .int)) (by decide) rfl ?_
  intro p e s m args below meth c s₁ B hml htab hv
  obtain ⟨rfl, hsz, hP, hK, hD0, hZ⟩ := hv
  have hx := B.exec
  have hb := B.bytes
  have hr := B.returns
  have hts0 := atoms_spec (ws := (pw_ws yX6_turnLoop cX6_turnLoop 3 (some .int))) B.pre
  have hts : ∀ w ∈ pw_all, w.before _ s = true := fun w h => hts0 w (List.mem_cons_of_mem _ h)
  have hown : s.vm.findClass RX6 = some m.cls := findClass_of_methodNamed B.named
  have hlocks := B.notSynchronized
  subst hsz
  have hD := hD0.self (sz := s.heap.size)
  generalize hAe : va_A [(h0, .inr (11, [v0, v1, v2, .ref a, v4, v5, v6, v7])), (a, .inr (4, [w0, w1, .int 0]))] s.heap.size = A at hD hZ ⊢
  have hA : ∀ q : Nat, s.heap.size ≤ q → A q := fun q h => by rw [← hAe]; exact Or.inr h
  have hS : va_S A s.heap s.heap [] := va_S.rf
  have hP : va_P (dC, dI) vwCl [(h0, .inr (11, [v0, v1, v2, .ref a, v4, v5, v6, v7])), (a, .inr (4, [w0, w1, .int 0]))] s.heap := hP
  have hl := lv_entry ([.ref h0, .int p0]) (n := 3) (Nat.le_of_ble_eq_true rfl)
  rw [lg_entry_eq]
  generalize (lg_sl ([.ref h0, .int p0]) ++ List.replicate (3 - (lg_sl ([.ref h0, .int p0])).length) Slot.unset).toArray = ls at hl ⊢
  have hl : lv_has ls 3 [(0, .ref h0), (1, .int p0)] := hl
  skip
  refine lv_aload_n hx hb dX6_turnLoop_0 rfl (lv_at hl 0 rfl) ?_
  refine lv_iload_n hx hb dX6_turnLoop_1 rfl (lv_at hl 1 rfl) ?_
  have hPc := hP.sub (ws' := [(h0, .inr (11, [v0, v1, v2, .ref a, v4, v5, v6, v7])), (a, .inr (4, [w0, w1, .int 0]))]) [0, 1] rfl
  have hDc := hD.sub (ws' := [(h0, .inr (11, [v0, v1, v2, .ref a, v4, v5, v6, v7])), (a, .inr (4, [w0, w1, .int 0]))]) [0, 1] (by decide) rfl
  have hKc := hK.sub (tys' := []) [] rfl
  have hFc := va_free (wc := [(h0, .inr (11, [v0, v1, v2, .ref a, v4, v5, v6, v7])), (a, .inr (4, [w0, w1, .int 0]))]) hD hS hA [0, 1] rfl
  refine vx_callr (vx_runV (As := [.int p0]) (rest := []) ⟨hx, hb, hml, hown, hts⟩ (m_runAt l hl9 dC dI s.heap.size ed h0 a v0 v1 v2 v4 v5 v6 v7 w0 w1 p0) (cwV 1 hts (pw_V q841 q843 q11 q43 q844) rfl rfl rfl (by decide +kernel) ⟨(Nat.le_of_ble_eq_true rfl), (Nat.le_of_ble_eq_true rfl)⟩) ⟨fun a U g mk q => by obtain ⟨q0, q1, qP, qK, qD, qZ⟩ := q; exact ⟨q0, q1, qP, va_K.moved (u := U) (U := U.calling g mk a) (Vm.Alike.refl U.vm) qK, qD, qZ.same rfl⟩, va_recv hKc hPc (ci := 11) (q0 := 0) rfl rfl, fun U hU hW => ⟨rfl, by rw [hU], by rw [hU]; exact hPc, va_K.moved hW.alike hKc, hDc.weaken (fun _ _ _ _ => trivial), hZ.call hS hFc hU hW⟩⟩ rfl rfl hl.1 rfl (lv_room (Nat.le_of_ble_eq_true rfl)) dX6_turnLoop_2 ⟨(Nat.le_of_ble_eq_true rfl), (Nat.le_of_ble_eq_true rfl)⟩) hS (fun q _ h => hFc q h) hFc (fun q _ h => hFc q h) (fun E ce q9 u t H1 locs ht hvm hw hB hz1 hk1 hS hce hcv hcl => ?_) (fun u r_124 t H1 locs ht hvm hw hB hz1 hk1 hS => hw.elim)
  obtain ⟨rfl, hP1, hK1, hD1⟩ := hB
  rw [ht] at hP1
  have hK1 := va_K.moved hvm.symm hK1
  obtain ⟨hP, hD⟩ := va_join (wr := []) (w1 := [(h0, .inr (11, [v0, v1, v2, .ref a, v4, v5, v6, v7])), (a, .inr (4, [w0, w1, .int 0]))]) hP hD [0, 1] [] rfl rfl (by decide) (by decide) hk1 hFc hP1 hD1
  have hK := (hK.sub (tys' := []) [] rfl).app hK1
  generalize H1 = H at hP hS hce ⊢
  have hP : va_P (dC, dI) vwCl [(h0, .inr (11, [v0, v1, v2, .ref a, v4, v5, v6, v7])), (a, .inr (4, [w0, w1, .int 0]))] H := hP
  have hD : va_D A [(h0, .inr (11, [v0, v1, v2, .ref a, v4, v5, v6, v7])), (a, .inr (4, [w0, w1, .int 0]))] := hD
  have hK : va_K (dC, dI) vwCl [] s := hK
  have hP9 := hP.sub (ws' := [(h0, .inr (11, [v0, v1, v2, .ref a, v4, v5, v6, v7])), (a, .inr (4, [w0, w1, .int 0]))]) [0, 1] rfl
  have hD9 := hD.sub (ws' := [(h0, .inr (11, [v0, v1, v2, .ref a, v4, v5, v6, v7])), (a, .inr (4, [w0, w1, .int 0]))]) [0, 1] (by decide) rfl
  have hK9 := hK.sub (tys' := []) [] rfl
  exact vx_out (fun x hx => (htab x hx).elim) hlocks hce hcv hcl (fun t ht ha => ⟨(), trivial, ⟨rfl, by rw [ht]; exact hP9, va_K.moved ha hK9, hD9⟩, hS.F ht⟩) hS.2.2 (Nat.le_of_ble_eq_true rfl) (Nat.le_of_ble_eq_true rfl)
set_option maxHeartbeats 4000000 in
set_option maxRecDepth 100000 in
theorem x_getState (l : Launch) (hl9 : l.stackTraces = false) (dC : Nat → ClassId) (dI : Nat → Nat → Nat) (sz : Nat) (ed : Nat) (h0 : Nat) (a : Nat) (v0 : Value) (v1 : Value) (v2 : Value) (v4 : Value) (v5 : Value) (v6 : Value) (v7 : Value) (w0 : Value) (w1 : Value) (p0 : Int32) : vx_Met l yX6_getState (pw_ws yX6_getState cX6_getState 2 (some .char)) ({ frames := 7, cells := 1, slots := 6, locals := 121 } : Room) (va_Pc [.ref h0, .int p0] (fun U => U.heap.size = sz ∧ va_P (dC, dI) vwCl [(h0, .inr (11, [v0, v1, v2, .ref a, v4, v5, v6, v7])), (a, .inr (4, [w0, w1, .int 0]))] U.heap ∧ va_K (dC, dI) vwCl [] U ∧ va_D (fun _ => True) [(h0, .inr (11, [v0, v1, v2, .ref a, v4, v5, v6, v7])), (a, .inr (4, [w0, w1, .int 0]))] ∧ pz ed (va_A [(h0, .inr (11, [v0, v1, v2, .ref a, v4, v5, v6, v7])), (a, .inr (4, [w0, w1, .int 0]))] sz) U U.heap)) (va_Qi (fun (_ : Int32) (_ : Unit) => False) (fun (_ : Unit) (_ : State) => True) (va_A [(h0, .inr (11, [v0, v1, v2, .ref a, v4, v5, v6, v7])), (a, .inr (4, [w0, w1, .int 0]))] sz)) (vx_X px_T (fun (E : String) (_ : Unit) (t : State) => E = "java/lang/IndexOutOfBoundsException" ∧ va_P (dC, dI) vwCl [(h0, .inr (11, [v0, v1, v2, .ref a, v4, v5, v6, v7])), (a, .inr (4, [w0, w1, .int 0]))] t.heap ∧ va_K (dC, dI) vwCl [] t ∧ va_D (va_A [(h0, .inr (11, [v0, v1, v2, .ref a, v4, v5, v6, v7])), (a, .inr (4, [w0, w1, .int 0]))] sz) [(h0, .inr (11, [v0, v1, v2, .ref a, v4, v5, v6, v7])), (a, .inr (4, [w0, w1, .int 0]))]) (va_A [(h0, .inr (11, [v0, v1, v2, .ref a, v4, v5, v6, v7])), (a, .inr (4, [w0, w1, .int 0]))] sz)) 1 6 (va_A [(h0, .inr (11, [v0, v1, v2, .ref a, v4, v5, v6, v7])), (a, .inr (4, [w0, w1, .int 0]))] sz) := by
  refine vx_ofW (cc := cX6_getState) (maxL := 2) (ret := (some .char)) (by decide) rfl ?_
  intro p e s m args below meth c s₁ B hml htab hv
  obtain ⟨rfl, hsz, hP, hK, hD0, hZ⟩ := hv
  have hx := B.exec
  have hb := B.bytes
  have hr := B.returns
  have hts0 := atoms_spec (ws := (pw_ws yX6_getState cX6_getState 2 (some .char))) B.pre
  have hts : ∀ w ∈ pw_all, w.before _ s = true := fun w h => hts0 w (List.mem_cons_of_mem _ h)
  have hown : s.vm.findClass RX6 = some m.cls := findClass_of_methodNamed B.named
  have hlocks := B.notSynchronized
  subst hsz
  have hD := hD0.self (sz := s.heap.size)
  generalize hAe : va_A [(h0, .inr (11, [v0, v1, v2, .ref a, v4, v5, v6, v7])), (a, .inr (4, [w0, w1, .int 0]))] s.heap.size = A at hD hZ ⊢
  have hA : ∀ q : Nat, s.heap.size ≤ q → A q := fun q h => by rw [← hAe]; exact Or.inr h
  have hS : va_S A s.heap s.heap [] := va_S.rf
  have hP : va_P (dC, dI) vwCl [(h0, .inr (11, [v0, v1, v2, .ref a, v4, v5, v6, v7])), (a, .inr (4, [w0, w1, .int 0]))] s.heap := hP
  have hl := lv_entry ([.ref h0, .int p0]) (n := 2) (Nat.le_of_ble_eq_true rfl)
  rw [lg_entry_eq]
  generalize (lg_sl ([.ref h0, .int p0]) ++ List.replicate (2 - (lg_sl ([.ref h0, .int p0])).length) Slot.unset).toArray = ls at hl ⊢
  have hl : lv_has ls 2 [(0, .ref h0), (1, .int p0)] := hl
  skip
  refine lv_aload_n hx hb dX6_getState_0 rfl (lv_at hl 0 rfl) ?_
  refine lv_iload_n hx hb dX6_getState_1 rfl (lv_at hl 1 rfl) ?_
  have hPc := hP.sub (ws' := [(h0, .inr (11, [v0, v1, v2, .ref a, v4, v5, v6, v7])), (a, .inr (4, [w0, w1, .int 0]))]) [0, 1] rfl
  have hDc := hD.sub (ws' := [(h0, .inr (11, [v0, v1, v2, .ref a, v4, v5, v6, v7])), (a, .inr (4, [w0, w1, .int 0]))]) [0, 1] (by decide) rfl
  have hKc := hK.sub (tys' := []) [] rfl
  have hFc := va_free (wc := [(h0, .inr (11, [v0, v1, v2, .ref a, v4, v5, v6, v7])), (a, .inr (4, [w0, w1, .int 0]))]) hD hS hA [0, 1] rfl
  refine vx_callr (vx_runV (As := [.int p0]) (rest := []) ⟨hx, hb, hml, hown, hts⟩ (m_runAt l hl9 dC dI s.heap.size ed h0 a v0 v1 v2 v4 v5 v6 v7 w0 w1 p0) (cwV 1 hts (pw_V q841 q843 q11 q43 q844) rfl rfl rfl (by decide +kernel) ⟨(Nat.le_of_ble_eq_true rfl), (Nat.le_of_ble_eq_true rfl)⟩) ⟨fun a U g mk q => by obtain ⟨q0, q1, qP, qK, qD, qZ⟩ := q; exact ⟨q0, q1, qP, va_K.moved (u := U) (U := U.calling g mk a) (Vm.Alike.refl U.vm) qK, qD, qZ.same rfl⟩, va_recv hKc hPc (ci := 11) (q0 := 0) rfl rfl, fun U hU hW => ⟨rfl, by rw [hU], by rw [hU]; exact hPc, va_K.moved hW.alike hKc, hDc.weaken (fun _ _ _ _ => trivial), hZ.call hS hFc hU hW⟩⟩ rfl rfl hl.1 rfl (lv_room (Nat.le_of_ble_eq_true rfl)) dX6_getState_2 ⟨(Nat.le_of_ble_eq_true rfl), (Nat.le_of_ble_eq_true rfl)⟩) hS (fun q _ h => hFc q h) hFc (fun q _ h => hFc q h) (fun E ce q9 u t H1 locs ht hvm hw hB hz1 hk1 hS hce hcv hcl => ?_) (fun u r_125 t H1 locs ht hvm hw hB hz1 hk1 hS => hw.elim)
  obtain ⟨rfl, hP1, hK1, hD1⟩ := hB
  rw [ht] at hP1
  have hK1 := va_K.moved hvm.symm hK1
  obtain ⟨hP, hD⟩ := va_join (wr := []) (w1 := [(h0, .inr (11, [v0, v1, v2, .ref a, v4, v5, v6, v7])), (a, .inr (4, [w0, w1, .int 0]))]) hP hD [0, 1] [] rfl rfl (by decide) (by decide) hk1 hFc hP1 hD1
  have hK := (hK.sub (tys' := []) [] rfl).app hK1
  generalize H1 = H at hP hS hce ⊢
  have hP : va_P (dC, dI) vwCl [(h0, .inr (11, [v0, v1, v2, .ref a, v4, v5, v6, v7])), (a, .inr (4, [w0, w1, .int 0]))] H := hP
  have hD : va_D A [(h0, .inr (11, [v0, v1, v2, .ref a, v4, v5, v6, v7])), (a, .inr (4, [w0, w1, .int 0]))] := hD
  have hK : va_K (dC, dI) vwCl [] s := hK
  have hP9 := hP.sub (ws' := [(h0, .inr (11, [v0, v1, v2, .ref a, v4, v5, v6, v7])), (a, .inr (4, [w0, w1, .int 0]))]) [0, 1] rfl
  have hD9 := hD.sub (ws' := [(h0, .inr (11, [v0, v1, v2, .ref a, v4, v5, v6, v7])), (a, .inr (4, [w0, w1, .int 0]))]) [0, 1] (by decide) rfl
  have hK9 := hK.sub (tys' := []) [] rfl
  exact vx_out (fun x hx => (htab x hx).elim) hlocks hce hcv hcl (fun t ht ha => ⟨(), trivial, ⟨rfl, by rw [ht]; exact hP9, va_K.moved ha hK9, hD9⟩, hS.F ht⟩) hS.2.2 (Nat.le_of_ble_eq_true rfl) (Nat.le_of_ble_eq_true rfl)
set_option maxHeartbeats 4000000 in
set_option maxRecDepth 100000 in
theorem x_raise (l : Launch) (hl9 : l.stackTraces = false) (dC : Nat → ClassId) (dI : Nat → Nat → Nat) (sz : Nat) (ed : Nat) (h0 : Nat) (a : Nat) (v0 : Value) (v1 : Value) (v2 : Value) (v4 : Value) (v5 : Value) (v6 : Value) (v7 : Value) (w0 : Value) (w1 : Value) (p0 : Int32) : vx_Met l yX6_raise (pw_ws yX6_raise cX6_raise 3 (some .int)) ({ frames := 7, cells := 1, slots := 6, locals := 121 } : Room) (va_Pc [.ref h0, .int p0] (fun U => U.heap.size = sz ∧ va_P (dC, dI) vwCl [(h0, .inr (11, [v0, v1, v2, .ref a, v4, v5, v6, v7])), (a, .inr (4, [w0, w1, .int 0]))] U.heap ∧ va_K (dC, dI) vwCl [] U ∧ va_D (fun _ => True) [(h0, .inr (11, [v0, v1, v2, .ref a, v4, v5, v6, v7])), (a, .inr (4, [w0, w1, .int 0]))] ∧ pz ed (va_A [(h0, .inr (11, [v0, v1, v2, .ref a, v4, v5, v6, v7])), (a, .inr (4, [w0, w1, .int 0]))] sz) U U.heap)) (va_Qi (fun (_ : Int32) (_ : Unit) => False) (fun (_ : Unit) (_ : State) => True) (va_A [(h0, .inr (11, [v0, v1, v2, .ref a, v4, v5, v6, v7])), (a, .inr (4, [w0, w1, .int 0]))] sz)) (vx_X px_T (fun (E : String) (_ : Unit) (t : State) => E = "java/lang/IndexOutOfBoundsException" ∧ va_P (dC, dI) vwCl [(h0, .inr (11, [v0, v1, v2, .ref a, v4, v5, v6, v7])), (a, .inr (4, [w0, w1, .int 0]))] t.heap ∧ va_K (dC, dI) vwCl [] t ∧ va_D (va_A [(h0, .inr (11, [v0, v1, v2, .ref a, v4, v5, v6, v7])), (a, .inr (4, [w0, w1, .int 0]))] sz) [(h0, .inr (11, [v0, v1, v2, .ref a, v4, v5, v6, v7])), (a, .inr (4, [w0, w1, .int 0]))]) (va_A [(h0, .inr (11, [v0, v1, v2, .ref a, v4, v5, v6, v7])), (a, .inr (4, [w0, w1, .int 0]))] sz)) 1 6 (va_A [(h0, .inr (11, [v0, v1, v2, .ref a, v4, v5, v6, v7])), (a, .inr (4, [w0, w1, .int 0]))] sz) := by
  refine vx_ofW (cc := cX6_raise) (maxL := 3) (ret := (some .int)) (by decide) rfl ?_
  intro p e s m args below meth c s₁ B hml htab hv
  obtain ⟨rfl, hsz, hP, hK, hD0, hZ⟩ := hv
  have hx := B.exec
  have hb := B.bytes
  have hr := B.returns
  have hts0 := atoms_spec (ws := (pw_ws yX6_raise cX6_raise 3 (some .int))) B.pre
  have hts : ∀ w ∈ pw_all, w.before _ s = true := fun w h => hts0 w (List.mem_cons_of_mem _ h)
  have hown : s.vm.findClass RX6 = some m.cls := findClass_of_methodNamed B.named
  have hlocks := B.notSynchronized
  subst hsz
  have hD := hD0.self (sz := s.heap.size)
  generalize hAe : va_A [(h0, .inr (11, [v0, v1, v2, .ref a, v4, v5, v6, v7])), (a, .inr (4, [w0, w1, .int 0]))] s.heap.size = A at hD hZ ⊢
  have hA : ∀ q : Nat, s.heap.size ≤ q → A q := fun q h => by rw [← hAe]; exact Or.inr h
  have hS : va_S A s.heap s.heap [] := va_S.rf
  have hP : va_P (dC, dI) vwCl [(h0, .inr (11, [v0, v1, v2, .ref a, v4, v5, v6, v7])), (a, .inr (4, [w0, w1, .int 0]))] s.heap := hP
  have hl := lv_entry ([.ref h0, .int p0]) (n := 3) (Nat.le_of_ble_eq_true rfl)
  rw [lg_entry_eq]
  generalize (lg_sl ([.ref h0, .int p0]) ++ List.replicate (3 - (lg_sl ([.ref h0, .int p0])).length) Slot.unset).toArray = ls at hl ⊢
  have hl : lv_has ls 3 [(0, .ref h0), (1, .int p0)] := hl
  skip
  refine lv_aload_n hx hb dX6_raise_0 rfl (lv_at hl 0 rfl) ?_
  refine lv_iload_n hx hb dX6_raise_1 rfl (lv_at hl 1 rfl) ?_
  have hPc := hP.sub (ws' := [(h0, .inr (11, [v0, v1, v2, .ref a, v4, v5, v6, v7])), (a, .inr (4, [w0, w1, .int 0]))]) [0, 1] rfl
  have hDc := hD.sub (ws' := [(h0, .inr (11, [v0, v1, v2, .ref a, v4, v5, v6, v7])), (a, .inr (4, [w0, w1, .int 0]))]) [0, 1] (by decide) rfl
  have hKc := hK.sub (tys' := []) [] rfl
  have hFc := va_free (wc := [(h0, .inr (11, [v0, v1, v2, .ref a, v4, v5, v6, v7])), (a, .inr (4, [w0, w1, .int 0]))]) hD hS hA [0, 1] rfl
  refine vx_callr (vx_runV (As := [.int p0]) (rest := []) ⟨hx, hb, hml, hown, hts⟩ (m_runAt l hl9 dC dI s.heap.size ed h0 a v0 v1 v2 v4 v5 v6 v7 w0 w1 p0) (cwV 1 hts (pw_V q841 q843 q11 q43 q844) rfl rfl rfl (by decide +kernel) ⟨(Nat.le_of_ble_eq_true rfl), (Nat.le_of_ble_eq_true rfl)⟩) ⟨fun a U g mk q => by obtain ⟨q0, q1, qP, qK, qD, qZ⟩ := q; exact ⟨q0, q1, qP, va_K.moved (u := U) (U := U.calling g mk a) (Vm.Alike.refl U.vm) qK, qD, qZ.same rfl⟩, va_recv hKc hPc (ci := 11) (q0 := 0) rfl rfl, fun U hU hW => ⟨rfl, by rw [hU], by rw [hU]; exact hPc, va_K.moved hW.alike hKc, hDc.weaken (fun _ _ _ _ => trivial), hZ.call hS hFc hU hW⟩⟩ rfl rfl hl.1 rfl (lv_room (Nat.le_of_ble_eq_true rfl)) dX6_raise_2 ⟨(Nat.le_of_ble_eq_true rfl), (Nat.le_of_ble_eq_true rfl)⟩) hS (fun q _ h => hFc q h) hFc (fun q _ h => hFc q h) (fun E ce q9 u t H1 locs ht hvm hw hB hz1 hk1 hS hce hcv hcl => ?_) (fun u r_126 t H1 locs ht hvm hw hB hz1 hk1 hS => hw.elim)
  obtain ⟨rfl, hP1, hK1, hD1⟩ := hB
  rw [ht] at hP1
  have hK1 := va_K.moved hvm.symm hK1
  obtain ⟨hP, hD⟩ := va_join (wr := []) (w1 := [(h0, .inr (11, [v0, v1, v2, .ref a, v4, v5, v6, v7])), (a, .inr (4, [w0, w1, .int 0]))]) hP hD [0, 1] [] rfl rfl (by decide) (by decide) hk1 hFc hP1 hD1
  have hK := (hK.sub (tys' := []) [] rfl).app hK1
  generalize H1 = H at hP hS hce ⊢
  have hP : va_P (dC, dI) vwCl [(h0, .inr (11, [v0, v1, v2, .ref a, v4, v5, v6, v7])), (a, .inr (4, [w0, w1, .int 0]))] H := hP
  have hD : va_D A [(h0, .inr (11, [v0, v1, v2, .ref a, v4, v5, v6, v7])), (a, .inr (4, [w0, w1, .int 0]))] := hD
  have hK : va_K (dC, dI) vwCl [] s := hK
  have hP9 := hP.sub (ws' := [(h0, .inr (11, [v0, v1, v2, .ref a, v4, v5, v6, v7])), (a, .inr (4, [w0, w1, .int 0]))]) [0, 1] rfl
  have hD9 := hD.sub (ws' := [(h0, .inr (11, [v0, v1, v2, .ref a, v4, v5, v6, v7])), (a, .inr (4, [w0, w1, .int 0]))]) [0, 1] (by decide) rfl
  have hK9 := hK.sub (tys' := []) [] rfl
  exact vx_out (fun x hx => (htab x hx).elim) hlocks hce hcv hcl (fun t ht ha => ⟨(), trivial, ⟨rfl, by rw [ht]; exact hP9, va_K.moved ha hK9, hD9⟩, hS.F ht⟩) hS.2.2 (Nat.le_of_ble_eq_true rfl) (Nat.le_of_ble_eq_true rfl)
set_option maxHeartbeats 4000000 in
set_option maxRecDepth 100000 in
theorem x_takeUp (l : Launch) (hl9 : l.stackTraces = false) (dC : Nat → ClassId) (dI : Nat → Nat → Nat) (sz : Nat) (ed : Nat) (h0 : Nat) (a : Nat) (v0 : Value) (v1 : Value) (v2 : Value) (v4 : Value) (v5 : Value) (v6 : Value) (v7 : Value) (w0 : Value) (w1 : Value) (p0 : Int32) : vx_Met l yX6_takeUp (pw_ws yX6_takeUp cX6_takeUp 3 (some .int)) ({ frames := 7, cells := 1, slots := 6, locals := 121 } : Room) (va_Pc [.ref h0, .int p0] (fun U => U.heap.size = sz ∧ va_P (dC, dI) vwCl [(h0, .inr (11, [v0, v1, v2, .ref a, v4, v5, v6, v7])), (a, .inr (4, [w0, w1, .int 0]))] U.heap ∧ va_K (dC, dI) vwCl [] U ∧ va_D (fun _ => True) [(h0, .inr (11, [v0, v1, v2, .ref a, v4, v5, v6, v7])), (a, .inr (4, [w0, w1, .int 0]))] ∧ pz ed (va_A [(h0, .inr (11, [v0, v1, v2, .ref a, v4, v5, v6, v7])), (a, .inr (4, [w0, w1, .int 0]))] sz) U U.heap)) (va_Qi (fun (_ : Int32) (_ : Unit) => False) (fun (_ : Unit) (_ : State) => True) (va_A [(h0, .inr (11, [v0, v1, v2, .ref a, v4, v5, v6, v7])), (a, .inr (4, [w0, w1, .int 0]))] sz)) (vx_X px_T (fun (E : String) (_ : Unit) (t : State) => E = "java/lang/IndexOutOfBoundsException" ∧ va_P (dC, dI) vwCl [(h0, .inr (11, [v0, v1, v2, .ref a, v4, v5, v6, v7])), (a, .inr (4, [w0, w1, .int 0]))] t.heap ∧ va_K (dC, dI) vwCl [] t ∧ va_D (va_A [(h0, .inr (11, [v0, v1, v2, .ref a, v4, v5, v6, v7])), (a, .inr (4, [w0, w1, .int 0]))] sz) [(h0, .inr (11, [v0, v1, v2, .ref a, v4, v5, v6, v7])), (a, .inr (4, [w0, w1, .int 0]))]) (va_A [(h0, .inr (11, [v0, v1, v2, .ref a, v4, v5, v6, v7])), (a, .inr (4, [w0, w1, .int 0]))] sz)) 1 6 (va_A [(h0, .inr (11, [v0, v1, v2, .ref a, v4, v5, v6, v7])), (a, .inr (4, [w0, w1, .int 0]))] sz) := by
  refine vx_ofW (cc := cX6_takeUp) (maxL := 3) (ret := (some .int)) (by decide) rfl ?_
  intro p e s m args below meth c s₁ B hml htab hv
  obtain ⟨rfl, hsz, hP, hK, hD0, hZ⟩ := hv
  have hx := B.exec
  have hb := B.bytes
  have hr := B.returns
  have hts0 := atoms_spec (ws := (pw_ws yX6_takeUp cX6_takeUp 3 (some .int))) B.pre
  have hts : ∀ w ∈ pw_all, w.before _ s = true := fun w h => hts0 w (List.mem_cons_of_mem _ h)
  have hown : s.vm.findClass RX6 = some m.cls := findClass_of_methodNamed B.named
  have hlocks := B.notSynchronized
  subst hsz
  have hD := hD0.self (sz := s.heap.size)
  generalize hAe : va_A [(h0, .inr (11, [v0, v1, v2, .ref a, v4, v5, v6, v7])), (a, .inr (4, [w0, w1, .int 0]))] s.heap.size = A at hD hZ ⊢
  have hA : ∀ q : Nat, s.heap.size ≤ q → A q := fun q h => by rw [← hAe]; exact Or.inr h
  have hS : va_S A s.heap s.heap [] := va_S.rf
  have hP : va_P (dC, dI) vwCl [(h0, .inr (11, [v0, v1, v2, .ref a, v4, v5, v6, v7])), (a, .inr (4, [w0, w1, .int 0]))] s.heap := hP
  have hl := lv_entry ([.ref h0, .int p0]) (n := 3) (Nat.le_of_ble_eq_true rfl)
  rw [lg_entry_eq]
  generalize (lg_sl ([.ref h0, .int p0]) ++ List.replicate (3 - (lg_sl ([.ref h0, .int p0])).length) Slot.unset).toArray = ls at hl ⊢
  have hl : lv_has ls 3 [(0, .ref h0), (1, .int p0)] := hl
  skip
  refine lv_aload_n hx hb dX6_takeUp_0 rfl (lv_at hl 0 rfl) ?_
  refine lv_iload_n hx hb dX6_takeUp_1 rfl (lv_at hl 1 rfl) ?_
  have hPc := hP.sub (ws' := [(h0, .inr (11, [v0, v1, v2, .ref a, v4, v5, v6, v7])), (a, .inr (4, [w0, w1, .int 0]))]) [0, 1] rfl
  have hDc := hD.sub (ws' := [(h0, .inr (11, [v0, v1, v2, .ref a, v4, v5, v6, v7])), (a, .inr (4, [w0, w1, .int 0]))]) [0, 1] (by decide) rfl
  have hKc := hK.sub (tys' := []) [] rfl
  have hFc := va_free (wc := [(h0, .inr (11, [v0, v1, v2, .ref a, v4, v5, v6, v7])), (a, .inr (4, [w0, w1, .int 0]))]) hD hS hA [0, 1] rfl
  refine vx_callr (vx_runV (As := [.int p0]) (rest := []) ⟨hx, hb, hml, hown, hts⟩ (m_runAt l hl9 dC dI s.heap.size ed h0 a v0 v1 v2 v4 v5 v6 v7 w0 w1 p0) (cwV 1 hts (pw_V q841 q843 q11 q43 q844) rfl rfl rfl (by decide +kernel) ⟨(Nat.le_of_ble_eq_true rfl), (Nat.le_of_ble_eq_true rfl)⟩) ⟨fun a U g mk q => by obtain ⟨q0, q1, qP, qK, qD, qZ⟩ := q; exact ⟨q0, q1, qP, va_K.moved (u := U) (U := U.calling g mk a) (Vm.Alike.refl U.vm) qK, qD, qZ.same rfl⟩, va_recv hKc hPc (ci := 11) (q0 := 0) rfl rfl, fun U hU hW => ⟨rfl, by rw [hU], by rw [hU]; exact hPc, va_K.moved hW.alike hKc, hDc.weaken (fun _ _ _ _ => trivial), hZ.call hS hFc hU hW⟩⟩ rfl rfl hl.1 rfl (lv_room (Nat.le_of_ble_eq_true rfl)) dX6_takeUp_2 ⟨(Nat.le_of_ble_eq_true rfl), (Nat.le_of_ble_eq_true rfl)⟩) hS (fun q _ h => hFc q h) hFc (fun q _ h => hFc q h) (fun E ce q9 u t H1 locs ht hvm hw hB hz1 hk1 hS hce hcv hcl => ?_) (fun u r_127 t H1 locs ht hvm hw hB hz1 hk1 hS => hw.elim)
  obtain ⟨rfl, hP1, hK1, hD1⟩ := hB
  rw [ht] at hP1
  have hK1 := va_K.moved hvm.symm hK1
  obtain ⟨hP, hD⟩ := va_join (wr := []) (w1 := [(h0, .inr (11, [v0, v1, v2, .ref a, v4, v5, v6, v7])), (a, .inr (4, [w0, w1, .int 0]))]) hP hD [0, 1] [] rfl rfl (by decide) (by decide) hk1 hFc hP1 hD1
  have hK := (hK.sub (tys' := []) [] rfl).app hK1
  generalize H1 = H at hP hS hce ⊢
  have hP : va_P (dC, dI) vwCl [(h0, .inr (11, [v0, v1, v2, .ref a, v4, v5, v6, v7])), (a, .inr (4, [w0, w1, .int 0]))] H := hP
  have hD : va_D A [(h0, .inr (11, [v0, v1, v2, .ref a, v4, v5, v6, v7])), (a, .inr (4, [w0, w1, .int 0]))] := hD
  have hK : va_K (dC, dI) vwCl [] s := hK
  have hP9 := hP.sub (ws' := [(h0, .inr (11, [v0, v1, v2, .ref a, v4, v5, v6, v7])), (a, .inr (4, [w0, w1, .int 0]))]) [0, 1] rfl
  have hD9 := hD.sub (ws' := [(h0, .inr (11, [v0, v1, v2, .ref a, v4, v5, v6, v7])), (a, .inr (4, [w0, w1, .int 0]))]) [0, 1] (by decide) rfl
  have hK9 := hK.sub (tys' := []) [] rfl
  exact vx_out (fun x hx => (htab x hx).elim) hlocks hce hcv hcl (fun t ht ha => ⟨(), trivial, ⟨rfl, by rw [ht]; exact hP9, va_K.moved ha hK9, hD9⟩, hS.F ht⟩) hS.2.2 (Nat.le_of_ble_eq_true rfl) (Nat.le_of_ble_eq_true rfl)
set_option maxHeartbeats 4000000 in
set_option maxRecDepth 100000 in
theorem x_sign (l : Launch) (hl9 : l.stackTraces = false) (dC : Nat → ClassId) (dI : Nat → Nat → Nat) (sz : Nat) (ed : Nat) (h0 : Nat) (a : Nat) (v0 : Value) (v1 : Value) (v2 : Value) (v4 : Value) (v5 : Value) (v6 : Value) (v7 : Value) (w0 : Value) (w1 : Value) (p0 : Int32) (p1 : Int32) : vx_Met l yX6_sign (pw_ws yX6_sign cX6_sign 4 (some .int)) ({ frames := 7, cells := 1, slots := 6, locals := 121 } : Room) (va_Pc [.ref h0, .int p0, .int p1] (fun U => U.heap.size = sz ∧ va_P (dC, dI) vwCl [(h0, .inr (11, [v0, v1, v2, .ref a, v4, v5, v6, v7])), (a, .inr (4, [w0, w1, .int 0]))] U.heap ∧ va_K (dC, dI) vwCl [] U ∧ va_D (fun _ => True) [(h0, .inr (11, [v0, v1, v2, .ref a, v4, v5, v6, v7])), (a, .inr (4, [w0, w1, .int 0]))] ∧ pz ed (va_A [(h0, .inr (11, [v0, v1, v2, .ref a, v4, v5, v6, v7])), (a, .inr (4, [w0, w1, .int 0]))] sz) U U.heap)) (va_Qi (fun (_ : Int32) (_ : Unit) => False) (fun (_ : Unit) (_ : State) => True) (va_A [(h0, .inr (11, [v0, v1, v2, .ref a, v4, v5, v6, v7])), (a, .inr (4, [w0, w1, .int 0]))] sz)) (vx_X px_T (fun (E : String) (_ : Unit) (t : State) => E = "java/lang/IndexOutOfBoundsException" ∧ va_P (dC, dI) vwCl [(h0, .inr (11, [v0, v1, v2, .ref a, v4, v5, v6, v7])), (a, .inr (4, [w0, w1, .int 0]))] t.heap ∧ va_K (dC, dI) vwCl [] t ∧ va_D (va_A [(h0, .inr (11, [v0, v1, v2, .ref a, v4, v5, v6, v7])), (a, .inr (4, [w0, w1, .int 0]))] sz) [(h0, .inr (11, [v0, v1, v2, .ref a, v4, v5, v6, v7])), (a, .inr (4, [w0, w1, .int 0]))]) (va_A [(h0, .inr (11, [v0, v1, v2, .ref a, v4, v5, v6, v7])), (a, .inr (4, [w0, w1, .int 0]))] sz)) 1 6 (va_A [(h0, .inr (11, [v0, v1, v2, .ref a, v4, v5, v6, v7])), (a, .inr (4, [w0, w1, .int 0]))] sz) := by
  refine vx_ofW (cc := cX6_sign) (maxL := 4) (ret := (some .int)) (by decide) rfl ?_
  intro p e s m args below meth c s₁ B hml htab hv
  obtain ⟨rfl, hsz, hP, hK, hD0, hZ⟩ := hv
  have hx := B.exec
  have hb := B.bytes
  have hr := B.returns
  have hts0 := atoms_spec (ws := (pw_ws yX6_sign cX6_sign 4 (some .int))) B.pre
  have hts : ∀ w ∈ pw_all, w.before _ s = true := fun w h => hts0 w (List.mem_cons_of_mem _ h)
  have hown : s.vm.findClass RX6 = some m.cls := findClass_of_methodNamed B.named
  have hlocks := B.notSynchronized
  subst hsz
  have hD := hD0.self (sz := s.heap.size)
  generalize hAe : va_A [(h0, .inr (11, [v0, v1, v2, .ref a, v4, v5, v6, v7])), (a, .inr (4, [w0, w1, .int 0]))] s.heap.size = A at hD hZ ⊢
  have hA : ∀ q : Nat, s.heap.size ≤ q → A q := fun q h => by rw [← hAe]; exact Or.inr h
  have hS : va_S A s.heap s.heap [] := va_S.rf
  have hP : va_P (dC, dI) vwCl [(h0, .inr (11, [v0, v1, v2, .ref a, v4, v5, v6, v7])), (a, .inr (4, [w0, w1, .int 0]))] s.heap := hP
  have hl := lv_entry ([.ref h0, .int p0, .int p1]) (n := 4) (Nat.le_of_ble_eq_true rfl)
  rw [lg_entry_eq]
  generalize (lg_sl ([.ref h0, .int p0, .int p1]) ++ List.replicate (4 - (lg_sl ([.ref h0, .int p0, .int p1])).length) Slot.unset).toArray = ls at hl ⊢
  have hl : lv_has ls 4 [(0, .ref h0), (1, .int p0), (2, .int p1)] := hl
  skip
  refine lv_aload_n hx hb dX6_sign_0 rfl (lv_at hl 0 rfl) ?_
  refine lv_iload_n hx hb dX6_sign_1 rfl (lv_at hl 1 rfl) ?_
  have hPc := hP.sub (ws' := [(h0, .inr (11, [v0, v1, v2, .ref a, v4, v5, v6, v7])), (a, .inr (4, [w0, w1, .int 0]))]) [0, 1] rfl
  have hDc := hD.sub (ws' := [(h0, .inr (11, [v0, v1, v2, .ref a, v4, v5, v6, v7])), (a, .inr (4, [w0, w1, .int 0]))]) [0, 1] (by decide) rfl
  have hKc := hK.sub (tys' := []) [] rfl
  have hFc := va_free (wc := [(h0, .inr (11, [v0, v1, v2, .ref a, v4, v5, v6, v7])), (a, .inr (4, [w0, w1, .int 0]))]) hD hS hA [0, 1] rfl
  refine vx_callr (vx_runV (As := [.int p0]) (rest := []) ⟨hx, hb, hml, hown, hts⟩ (m_runAt l hl9 dC dI s.heap.size ed h0 a v0 v1 v2 v4 v5 v6 v7 w0 w1 p0) (cwV 1 hts (pw_V q841 q843 q11 q43 q844) rfl rfl rfl (by decide +kernel) ⟨(Nat.le_of_ble_eq_true rfl), (Nat.le_of_ble_eq_true rfl)⟩) ⟨fun a U g mk q => by obtain ⟨q0, q1, qP, qK, qD, qZ⟩ := q; exact ⟨q0, q1, qP, va_K.moved (u := U) (U := U.calling g mk a) (Vm.Alike.refl U.vm) qK, qD, qZ.same rfl⟩, va_recv hKc hPc (ci := 11) (q0 := 0) rfl rfl, fun U hU hW => ⟨rfl, by rw [hU], by rw [hU]; exact hPc, va_K.moved hW.alike hKc, hDc.weaken (fun _ _ _ _ => trivial), hZ.call hS hFc hU hW⟩⟩ rfl rfl hl.1 rfl (lv_room (Nat.le_of_ble_eq_true rfl)) dX6_sign_2 ⟨(Nat.le_of_ble_eq_true rfl), (Nat.le_of_ble_eq_true rfl)⟩) hS (fun q _ h => hFc q h) hFc (fun q _ h => hFc q h) (fun E ce q9 u t H1 locs ht hvm hw hB hz1 hk1 hS hce hcv hcl => ?_) (fun u r_128 t H1 locs ht hvm hw hB hz1 hk1 hS => hw.elim)
  obtain ⟨rfl, hP1, hK1, hD1⟩ := hB
  rw [ht] at hP1
  have hK1 := va_K.moved hvm.symm hK1
  obtain ⟨hP, hD⟩ := va_join (wr := []) (w1 := [(h0, .inr (11, [v0, v1, v2, .ref a, v4, v5, v6, v7])), (a, .inr (4, [w0, w1, .int 0]))]) hP hD [0, 1] [] rfl rfl (by decide) (by decide) hk1 hFc hP1 hD1
  have hK := (hK.sub (tys' := []) [] rfl).app hK1
  generalize H1 = H at hP hS hce ⊢
  have hP : va_P (dC, dI) vwCl [(h0, .inr (11, [v0, v1, v2, .ref a, v4, v5, v6, v7])), (a, .inr (4, [w0, w1, .int 0]))] H := hP
  have hD : va_D A [(h0, .inr (11, [v0, v1, v2, .ref a, v4, v5, v6, v7])), (a, .inr (4, [w0, w1, .int 0]))] := hD
  have hK : va_K (dC, dI) vwCl [] s := hK
  have hP9 := hP.sub (ws' := [(h0, .inr (11, [v0, v1, v2, .ref a, v4, v5, v6, v7])), (a, .inr (4, [w0, w1, .int 0]))]) [0, 1] rfl
  have hD9 := hD.sub (ws' := [(h0, .inr (11, [v0, v1, v2, .ref a, v4, v5, v6, v7])), (a, .inr (4, [w0, w1, .int 0]))]) [0, 1] (by decide) rfl
  have hK9 := hK.sub (tys' := []) [] rfl
  exact vx_out (fun x hx => (htab x hx).elim) hlocks hce hcv hcl (fun t ht ha => ⟨(), trivial, ⟨rfl, by rw [ht]; exact hP9, va_K.moved ha hK9, hD9⟩, hS.F ht⟩) hS.2.2 (Nat.le_of_ble_eq_true rfl) (Nat.le_of_ble_eq_true rfl)
set_option maxHeartbeats 4000000 in
set_option maxRecDepth 100000 in
theorem x_setNotch (l : Launch) (hl9 : l.stackTraces = false) (dC : Nat → ClassId) (dI : Nat → Nat → Nat) (sz : Nat) (ed : Nat) (h0 : Nat) (a : Nat) (v0 : Value) (v1 : Value) (v2 : Value) (v4 : Value) (v5 : Value) (v6 : Value) (v7 : Value) (w0 : Value) (w1 : Value) (p0 : Int32) (p1 : Int32) (p2 : Int32) : vx_Met l yX6_setNotch (pw_ws yX6_setNotch cX6_setNotch 6 (some .int)) ({ frames := 7, cells := 1, slots := 6, locals := 121 } : Room) (va_Pc [.ref h0, .int p0, .int p1, .int p2] (fun U => U.heap.size = sz ∧ va_P (dC, dI) vwCl [(h0, .inr (11, [v0, v1, v2, .ref a, v4, v5, v6, v7])), (a, .inr (4, [w0, w1, .int 0]))] U.heap ∧ va_K (dC, dI) vwCl [] U ∧ va_D (fun _ => True) [(h0, .inr (11, [v0, v1, v2, .ref a, v4, v5, v6, v7])), (a, .inr (4, [w0, w1, .int 0]))] ∧ pz ed (va_A [(h0, .inr (11, [v0, v1, v2, .ref a, v4, v5, v6, v7])), (a, .inr (4, [w0, w1, .int 0]))] sz) U U.heap)) (va_Qi (fun (_ : Int32) (_ : Unit) => False) (fun (_ : Unit) (_ : State) => True) (va_A [(h0, .inr (11, [v0, v1, v2, .ref a, v4, v5, v6, v7])), (a, .inr (4, [w0, w1, .int 0]))] sz)) (vx_X px_T (fun (E : String) (_ : Unit) (t : State) => E = "java/lang/IndexOutOfBoundsException" ∧ va_P (dC, dI) vwCl [(h0, .inr (11, [v0, v1, v2, .ref a, v4, v5, v6, v7])), (a, .inr (4, [w0, w1, .int 0]))] t.heap ∧ va_K (dC, dI) vwCl [] t ∧ va_D (va_A [(h0, .inr (11, [v0, v1, v2, .ref a, v4, v5, v6, v7])), (a, .inr (4, [w0, w1, .int 0]))] sz) [(h0, .inr (11, [v0, v1, v2, .ref a, v4, v5, v6, v7])), (a, .inr (4, [w0, w1, .int 0]))]) (va_A [(h0, .inr (11, [v0, v1, v2, .ref a, v4, v5, v6, v7])), (a, .inr (4, [w0, w1, .int 0]))] sz)) 1 6 (va_A [(h0, .inr (11, [v0, v1, v2, .ref a, v4, v5, v6, v7])), (a, .inr (4, [w0, w1, .int 0]))] sz) := by
  refine vx_ofW (cc := cX6_setNotch) (maxL := 6) (ret := (some .int)) (by decide) rfl ?_
  intro p e s m args below meth c s₁ B hml htab hv
  obtain ⟨rfl, hsz, hP, hK, hD0, hZ⟩ := hv
  have hx := B.exec
  have hb := B.bytes
  have hr := B.returns
  have hts0 := atoms_spec (ws := (pw_ws yX6_setNotch cX6_setNotch 6 (some .int))) B.pre
  have hts : ∀ w ∈ pw_all, w.before _ s = true := fun w h => hts0 w (List.mem_cons_of_mem _ h)
  have hown : s.vm.findClass RX6 = some m.cls := findClass_of_methodNamed B.named
  have hlocks := B.notSynchronized
  subst hsz
  have hD := hD0.self (sz := s.heap.size)
  generalize hAe : va_A [(h0, .inr (11, [v0, v1, v2, .ref a, v4, v5, v6, v7])), (a, .inr (4, [w0, w1, .int 0]))] s.heap.size = A at hD hZ ⊢
  have hA : ∀ q : Nat, s.heap.size ≤ q → A q := fun q h => by rw [← hAe]; exact Or.inr h
  have hS : va_S A s.heap s.heap [] := va_S.rf
  have hP : va_P (dC, dI) vwCl [(h0, .inr (11, [v0, v1, v2, .ref a, v4, v5, v6, v7])), (a, .inr (4, [w0, w1, .int 0]))] s.heap := hP
  have hl := lv_entry ([.ref h0, .int p0, .int p1, .int p2]) (n := 6) (Nat.le_of_ble_eq_true rfl)
  rw [lg_entry_eq]
  generalize (lg_sl ([.ref h0, .int p0, .int p1, .int p2]) ++ List.replicate (6 - (lg_sl ([.ref h0, .int p0, .int p1, .int p2])).length) Slot.unset).toArray = ls at hl ⊢
  have hl : lv_has ls 6 [(0, .ref h0), (1, .int p0), (2, .int p1), (3, .int p2)] := hl
  skip
  refine lv_aload_n hx hb dX6_setNotch_0 rfl (lv_at hl 0 rfl) ?_
  refine lv_iload_n hx hb dX6_setNotch_1 rfl (lv_at hl 1 rfl) ?_
  have hPc := hP.sub (ws' := [(h0, .inr (11, [v0, v1, v2, .ref a, v4, v5, v6, v7])), (a, .inr (4, [w0, w1, .int 0]))]) [0, 1] rfl
  have hDc := hD.sub (ws' := [(h0, .inr (11, [v0, v1, v2, .ref a, v4, v5, v6, v7])), (a, .inr (4, [w0, w1, .int 0]))]) [0, 1] (by decide) rfl
  have hKc := hK.sub (tys' := []) [] rfl
  have hFc := va_free (wc := [(h0, .inr (11, [v0, v1, v2, .ref a, v4, v5, v6, v7])), (a, .inr (4, [w0, w1, .int 0]))]) hD hS hA [0, 1] rfl
  refine vx_callr (vx_runV (As := [.int p0]) (rest := []) ⟨hx, hb, hml, hown, hts⟩ (m_runAt l hl9 dC dI s.heap.size ed h0 a v0 v1 v2 v4 v5 v6 v7 w0 w1 p0) (cwV 1 hts (pw_V q841 q843 q11 q43 q844) rfl rfl rfl (by decide +kernel) ⟨(Nat.le_of_ble_eq_true rfl), (Nat.le_of_ble_eq_true rfl)⟩) ⟨fun a U g mk q => by obtain ⟨q0, q1, qP, qK, qD, qZ⟩ := q; exact ⟨q0, q1, qP, va_K.moved (u := U) (U := U.calling g mk a) (Vm.Alike.refl U.vm) qK, qD, qZ.same rfl⟩, va_recv hKc hPc (ci := 11) (q0 := 0) rfl rfl, fun U hU hW => ⟨rfl, by rw [hU], by rw [hU]; exact hPc, va_K.moved hW.alike hKc, hDc.weaken (fun _ _ _ _ => trivial), hZ.call hS hFc hU hW⟩⟩ rfl rfl hl.1 rfl (lv_room (Nat.le_of_ble_eq_true rfl)) dX6_setNotch_2 ⟨(Nat.le_of_ble_eq_true rfl), (Nat.le_of_ble_eq_true rfl)⟩) hS (fun q _ h => hFc q h) hFc (fun q _ h => hFc q h) (fun E ce q9 u t H1 locs ht hvm hw hB hz1 hk1 hS hce hcv hcl => ?_) (fun u r_129 t H1 locs ht hvm hw hB hz1 hk1 hS => hw.elim)
  obtain ⟨rfl, hP1, hK1, hD1⟩ := hB
  rw [ht] at hP1
  have hK1 := va_K.moved hvm.symm hK1
  obtain ⟨hP, hD⟩ := va_join (wr := []) (w1 := [(h0, .inr (11, [v0, v1, v2, .ref a, v4, v5, v6, v7])), (a, .inr (4, [w0, w1, .int 0]))]) hP hD [0, 1] [] rfl rfl (by decide) (by decide) hk1 hFc hP1 hD1
  have hK := (hK.sub (tys' := []) [] rfl).app hK1
  generalize H1 = H at hP hS hce ⊢
  have hP : va_P (dC, dI) vwCl [(h0, .inr (11, [v0, v1, v2, .ref a, v4, v5, v6, v7])), (a, .inr (4, [w0, w1, .int 0]))] H := hP
  have hD : va_D A [(h0, .inr (11, [v0, v1, v2, .ref a, v4, v5, v6, v7])), (a, .inr (4, [w0, w1, .int 0]))] := hD
  have hK : va_K (dC, dI) vwCl [] s := hK
  have hP9 := hP.sub (ws' := [(h0, .inr (11, [v0, v1, v2, .ref a, v4, v5, v6, v7])), (a, .inr (4, [w0, w1, .int 0]))]) [0, 1] rfl
  have hD9 := hD.sub (ws' := [(h0, .inr (11, [v0, v1, v2, .ref a, v4, v5, v6, v7])), (a, .inr (4, [w0, w1, .int 0]))]) [0, 1] (by decide) rfl
  have hK9 := hK.sub (tys' := []) [] rfl
  exact vx_out (fun x hx => (htab x hx).elim) hlocks hce hcv hcl (fun t ht ha => ⟨(), trivial, ⟨rfl, by rw [ht]; exact hP9, va_K.moved ha hK9, hD9⟩, hS.F ht⟩) hS.2.2 (Nat.le_of_ble_eq_true rfl) (Nat.le_of_ble_eq_true rfl)
set_option maxHeartbeats 4000000 in
set_option maxRecDepth 100000 in
theorem x_setAbort (l : Launch) (hl9 : l.stackTraces = false) (dC : Nat → ClassId) (dI : Nat → Nat → Nat) (sz : Nat) (ed : Nat) (h0 : Nat) (a : Nat) (v0 : Value) (v1 : Value) (v2 : Value) (v4 : Value) (v5 : Value) (v6 : Value) (v7 : Value) (w0 : Value) (w1 : Value) (p0 : Int32) (p1 : Int32) : vx_Met l yX6_setAbort (pw_ws yX6_setAbort cX6_setAbort 5 (some .int)) ({ frames := 7, cells := 1, slots := 6, locals := 121 } : Room) (va_Pc [.ref h0, .int p0, .int p1] (fun U => U.heap.size = sz ∧ va_P (dC, dI) vwCl [(h0, .inr (11, [v0, v1, v2, .ref a, v4, v5, v6, v7])), (a, .inr (4, [w0, w1, .int 0]))] U.heap ∧ va_K (dC, dI) vwCl [] U ∧ va_D (fun _ => True) [(h0, .inr (11, [v0, v1, v2, .ref a, v4, v5, v6, v7])), (a, .inr (4, [w0, w1, .int 0]))] ∧ pz ed (va_A [(h0, .inr (11, [v0, v1, v2, .ref a, v4, v5, v6, v7])), (a, .inr (4, [w0, w1, .int 0]))] sz) U U.heap)) (va_Qi (fun (_ : Int32) (_ : Unit) => False) (fun (_ : Unit) (_ : State) => True) (va_A [(h0, .inr (11, [v0, v1, v2, .ref a, v4, v5, v6, v7])), (a, .inr (4, [w0, w1, .int 0]))] sz)) (vx_X px_T (fun (E : String) (_ : Unit) (t : State) => E = "java/lang/IndexOutOfBoundsException" ∧ va_P (dC, dI) vwCl [(h0, .inr (11, [v0, v1, v2, .ref a, v4, v5, v6, v7])), (a, .inr (4, [w0, w1, .int 0]))] t.heap ∧ va_K (dC, dI) vwCl [] t ∧ va_D (va_A [(h0, .inr (11, [v0, v1, v2, .ref a, v4, v5, v6, v7])), (a, .inr (4, [w0, w1, .int 0]))] sz) [(h0, .inr (11, [v0, v1, v2, .ref a, v4, v5, v6, v7])), (a, .inr (4, [w0, w1, .int 0]))]) (va_A [(h0, .inr (11, [v0, v1, v2, .ref a, v4, v5, v6, v7])), (a, .inr (4, [w0, w1, .int 0]))] sz)) 1 6 (va_A [(h0, .inr (11, [v0, v1, v2, .ref a, v4, v5, v6, v7])), (a, .inr (4, [w0, w1, .int 0]))] sz) := by
  refine vx_ofW (cc := cX6_setAbort) (maxL := 5) (ret := (some .int)) (by decide) rfl ?_
  intro p e s m args below meth c s₁ B hml htab hv
  obtain ⟨rfl, hsz, hP, hK, hD0, hZ⟩ := hv
  have hx := B.exec
  have hb := B.bytes
  have hr := B.returns
  have hts0 := atoms_spec (ws := (pw_ws yX6_setAbort cX6_setAbort 5 (some .int))) B.pre
  have hts : ∀ w ∈ pw_all, w.before _ s = true := fun w h => hts0 w (List.mem_cons_of_mem _ h)
  have hown : s.vm.findClass RX6 = some m.cls := findClass_of_methodNamed B.named
  have hlocks := B.notSynchronized
  subst hsz
  have hD := hD0.self (sz := s.heap.size)
  generalize hAe : va_A [(h0, .inr (11, [v0, v1, v2, .ref a, v4, v5, v6, v7])), (a, .inr (4, [w0, w1, .int 0]))] s.heap.size = A at hD hZ ⊢
  have hA : ∀ q : Nat, s.heap.size ≤ q → A q := fun q h => by rw [← hAe]; exact Or.inr h
  have hS : va_S A s.heap s.heap [] := va_S.rf
  have hP : va_P (dC, dI) vwCl [(h0, .inr (11, [v0, v1, v2, .ref a, v4, v5, v6, v7])), (a, .inr (4, [w0, w1, .int 0]))] s.heap := hP
  have hl := lv_entry ([.ref h0, .int p0, .int p1]) (n := 5) (Nat.le_of_ble_eq_true rfl)
  rw [lg_entry_eq]
  generalize (lg_sl ([.ref h0, .int p0, .int p1]) ++ List.replicate (5 - (lg_sl ([.ref h0, .int p0, .int p1])).length) Slot.unset).toArray = ls at hl ⊢
  have hl : lv_has ls 5 [(0, .ref h0), (1, .int p0), (2, .int p1)] := hl
  skip
  refine lv_aload_n hx hb dX6_setAbort_0 rfl (lv_at hl 0 rfl) ?_
  refine lv_iload_n hx hb dX6_setAbort_1 rfl (lv_at hl 1 rfl) ?_
  have hPc := hP.sub (ws' := [(h0, .inr (11, [v0, v1, v2, .ref a, v4, v5, v6, v7])), (a, .inr (4, [w0, w1, .int 0]))]) [0, 1] rfl
  have hDc := hD.sub (ws' := [(h0, .inr (11, [v0, v1, v2, .ref a, v4, v5, v6, v7])), (a, .inr (4, [w0, w1, .int 0]))]) [0, 1] (by decide) rfl
  have hKc := hK.sub (tys' := []) [] rfl
  have hFc := va_free (wc := [(h0, .inr (11, [v0, v1, v2, .ref a, v4, v5, v6, v7])), (a, .inr (4, [w0, w1, .int 0]))]) hD hS hA [0, 1] rfl
  refine vx_callr (vx_runV (As := [.int p0]) (rest := []) ⟨hx, hb, hml, hown, hts⟩ (m_runAt l hl9 dC dI s.heap.size ed h0 a v0 v1 v2 v4 v5 v6 v7 w0 w1 p0) (cwV 1 hts (pw_V q841 q843 q11 q43 q844) rfl rfl rfl (by decide +kernel) ⟨(Nat.le_of_ble_eq_true rfl), (Nat.le_of_ble_eq_true rfl)⟩) ⟨fun a U g mk q => by obtain ⟨q0, q1, qP, qK, qD, qZ⟩ := q; exact ⟨q0, q1, qP, va_K.moved (u := U) (U := U.calling g mk a) (Vm.Alike.refl U.vm) qK, qD, qZ.same rfl⟩, va_recv hKc hPc (ci := 11) (q0 := 0) rfl rfl, fun U hU hW => ⟨rfl, by rw [hU], by rw [hU]; exact hPc, va_K.moved hW.alike hKc, hDc.weaken (fun _ _ _ _ => trivial), hZ.call hS hFc hU hW⟩⟩ rfl rfl hl.1 rfl (lv_room (Nat.le_of_ble_eq_true rfl)) dX6_setAbort_2 ⟨(Nat.le_of_ble_eq_true rfl), (Nat.le_of_ble_eq_true rfl)⟩) hS (fun q _ h => hFc q h) hFc (fun q _ h => hFc q h) (fun E ce q9 u t H1 locs ht hvm hw hB hz1 hk1 hS hce hcv hcl => ?_) (fun u r_130 t H1 locs ht hvm hw hB hz1 hk1 hS => hw.elim)
  obtain ⟨rfl, hP1, hK1, hD1⟩ := hB
  rw [ht] at hP1
  have hK1 := va_K.moved hvm.symm hK1
  obtain ⟨hP, hD⟩ := va_join (wr := []) (w1 := [(h0, .inr (11, [v0, v1, v2, .ref a, v4, v5, v6, v7])), (a, .inr (4, [w0, w1, .int 0]))]) hP hD [0, 1] [] rfl rfl (by decide) (by decide) hk1 hFc hP1 hD1
  have hK := (hK.sub (tys' := []) [] rfl).app hK1
  generalize H1 = H at hP hS hce ⊢
  have hP : va_P (dC, dI) vwCl [(h0, .inr (11, [v0, v1, v2, .ref a, v4, v5, v6, v7])), (a, .inr (4, [w0, w1, .int 0]))] H := hP
  have hD : va_D A [(h0, .inr (11, [v0, v1, v2, .ref a, v4, v5, v6, v7])), (a, .inr (4, [w0, w1, .int 0]))] := hD
  have hK : va_K (dC, dI) vwCl [] s := hK
  have hP9 := hP.sub (ws' := [(h0, .inr (11, [v0, v1, v2, .ref a, v4, v5, v6, v7])), (a, .inr (4, [w0, w1, .int 0]))]) [0, 1] rfl
  have hD9 := hD.sub (ws' := [(h0, .inr (11, [v0, v1, v2, .ref a, v4, v5, v6, v7])), (a, .inr (4, [w0, w1, .int 0]))]) [0, 1] (by decide) rfl
  have hK9 := hK.sub (tys' := []) [] rfl
  exact vx_out (fun x hx => (htab x hx).elim) hlocks hce hcv hcl (fun t ht ha => ⟨(), trivial, ⟨rfl, by rw [ht]; exact hP9, va_K.moved ha hK9, hD9⟩, hS.F ht⟩) hS.2.2 (Nat.le_of_ble_eq_true rfl) (Nat.le_of_ble_eq_true rfl)
set_option maxHeartbeats 4000000 in
set_option maxRecDepth 100000 in
theorem x_getMinutes (l : Launch) (hl9 : l.stackTraces = false) (dC : Nat → ClassId) (dI : Nat → Nat → Nat) (sz : Nat) (ed : Nat) (h0 : Nat) (a : Nat) (v0 : Value) (v1 : Value) (v2 : Value) (v4 : Value) (v5 : Value) (v6 : Value) (v7 : Value) (w0 : Value) (w1 : Value) (p0 : Int32) : vx_Met l yX6_getMinutes (pw_ws yX6_getMinutes cX6_getMinutes 2 (some .int)) ({ frames := 7, cells := 1, slots := 6, locals := 121 } : Room) (va_Pc [.ref h0, .int p0] (fun U => U.heap.size = sz ∧ va_P (dC, dI) vwCl [(h0, .inr (11, [v0, v1, v2, .ref a, v4, v5, v6, v7])), (a, .inr (4, [w0, w1, .int 0]))] U.heap ∧ va_K (dC, dI) vwCl [] U ∧ va_D (fun _ => True) [(h0, .inr (11, [v0, v1, v2, .ref a, v4, v5, v6, v7])), (a, .inr (4, [w0, w1, .int 0]))] ∧ pz ed (va_A [(h0, .inr (11, [v0, v1, v2, .ref a, v4, v5, v6, v7])), (a, .inr (4, [w0, w1, .int 0]))] sz) U U.heap)) (va_Qi (fun (_ : Int32) (_ : Unit) => False) (fun (_ : Unit) (_ : State) => True) (va_A [(h0, .inr (11, [v0, v1, v2, .ref a, v4, v5, v6, v7])), (a, .inr (4, [w0, w1, .int 0]))] sz)) (vx_X px_T (fun (E : String) (_ : Unit) (t : State) => E = "java/lang/IndexOutOfBoundsException" ∧ va_P (dC, dI) vwCl [(h0, .inr (11, [v0, v1, v2, .ref a, v4, v5, v6, v7])), (a, .inr (4, [w0, w1, .int 0]))] t.heap ∧ va_K (dC, dI) vwCl [] t ∧ va_D (va_A [(h0, .inr (11, [v0, v1, v2, .ref a, v4, v5, v6, v7])), (a, .inr (4, [w0, w1, .int 0]))] sz) [(h0, .inr (11, [v0, v1, v2, .ref a, v4, v5, v6, v7])), (a, .inr (4, [w0, w1, .int 0]))]) (va_A [(h0, .inr (11, [v0, v1, v2, .ref a, v4, v5, v6, v7])), (a, .inr (4, [w0, w1, .int 0]))] sz)) 1 6 (va_A [(h0, .inr (11, [v0, v1, v2, .ref a, v4, v5, v6, v7])), (a, .inr (4, [w0, w1, .int 0]))] sz) := by
  refine vx_ofW (cc := cX6_getMinutes) (maxL := 2) (ret := (some .int)) (by decide) rfl ?_
  intro p e s m args below meth c s₁ B hml htab hv
  obtain ⟨rfl, hsz, hP, hK, hD0, hZ⟩ := hv
  have hx := B.exec
  have hb := B.bytes
  have hr := B.returns
  have hts0 := atoms_spec (ws := (pw_ws yX6_getMinutes cX6_getMinutes 2 (some .int))) B.pre
  have hts : ∀ w ∈ pw_all, w.before _ s = true := fun w h => hts0 w (List.mem_cons_of_mem _ h)
  have hown : s.vm.findClass RX6 = some m.cls := findClass_of_methodNamed B.named
  have hlocks := B.notSynchronized
  subst hsz
  have hD := hD0.self (sz := s.heap.size)
  generalize hAe : va_A [(h0, .inr (11, [v0, v1, v2, .ref a, v4, v5, v6, v7])), (a, .inr (4, [w0, w1, .int 0]))] s.heap.size = A at hD hZ ⊢
  have hA : ∀ q : Nat, s.heap.size ≤ q → A q := fun q h => by rw [← hAe]; exact Or.inr h
  have hS : va_S A s.heap s.heap [] := va_S.rf
  have hP : va_P (dC, dI) vwCl [(h0, .inr (11, [v0, v1, v2, .ref a, v4, v5, v6, v7])), (a, .inr (4, [w0, w1, .int 0]))] s.heap := hP
  have hl := lv_entry ([.ref h0, .int p0]) (n := 2) (Nat.le_of_ble_eq_true rfl)
  rw [lg_entry_eq]
  generalize (lg_sl ([.ref h0, .int p0]) ++ List.replicate (2 - (lg_sl ([.ref h0, .int p0])).length) Slot.unset).toArray = ls at hl ⊢
  have hl : lv_has ls 2 [(0, .ref h0), (1, .int p0)] := hl
  skip
  refine lv_aload_n hx hb dX6_getMinutes_0 rfl (lv_at hl 0 rfl) ?_
  refine lv_iload_n hx hb dX6_getMinutes_1 rfl (lv_at hl 1 rfl) ?_
  have hPc := hP.sub (ws' := [(h0, .inr (11, [v0, v1, v2, .ref a, v4, v5, v6, v7])), (a, .inr (4, [w0, w1, .int 0]))]) [0, 1] rfl
  have hDc := hD.sub (ws' := [(h0, .inr (11, [v0, v1, v2, .ref a, v4, v5, v6, v7])), (a, .inr (4, [w0, w1, .int 0]))]) [0, 1] (by decide) rfl
  have hKc := hK.sub (tys' := []) [] rfl
  have hFc := va_free (wc := [(h0, .inr (11, [v0, v1, v2, .ref a, v4, v5, v6, v7])), (a, .inr (4, [w0, w1, .int 0]))]) hD hS hA [0, 1] rfl
  refine vx_callr (vx_runV (As := [.int p0]) (rest := []) ⟨hx, hb, hml, hown, hts⟩ (m_runAt l hl9 dC dI s.heap.size ed h0 a v0 v1 v2 v4 v5 v6 v7 w0 w1 p0) (cwV 1 hts (pw_V q841 q843 q11 q43 q844) rfl rfl rfl (by decide +kernel) ⟨(Nat.le_of_ble_eq_true rfl), (Nat.le_of_ble_eq_true rfl)⟩) ⟨fun a U g mk q => by obtain ⟨q0, q1, qP, qK, qD, qZ⟩ := q; exact ⟨q0, q1, qP, va_K.moved (u := U) (U := U.calling g mk a) (Vm.Alike.refl U.vm) qK, qD, qZ.same rfl⟩, va_recv hKc hPc (ci := 11) (q0 := 0) rfl rfl, fun U hU hW => ⟨rfl, by rw [hU], by rw [hU]; exact hPc, va_K.moved hW.alike hKc, hDc.weaken (fun _ _ _ _ => trivial), hZ.call hS hFc hU hW⟩⟩ rfl rfl hl.1 rfl (lv_room (Nat.le_of_ble_eq_true rfl)) dX6_getMinutes_2 ⟨(Nat.le_of_ble_eq_true rfl), (Nat.le_of_ble_eq_true rfl)⟩) hS (fun q _ h => hFc q h) hFc (fun q _ h => hFc q h) (fun E ce q9 u t H1 locs ht hvm hw hB hz1 hk1 hS hce hcv hcl => ?_) (fun u r_131 t H1 locs ht hvm hw hB hz1 hk1 hS => hw.elim)
  obtain ⟨rfl, hP1, hK1, hD1⟩ := hB
  rw [ht] at hP1
  have hK1 := va_K.moved hvm.symm hK1
  obtain ⟨hP, hD⟩ := va_join (wr := []) (w1 := [(h0, .inr (11, [v0, v1, v2, .ref a, v4, v5, v6, v7])), (a, .inr (4, [w0, w1, .int 0]))]) hP hD [0, 1] [] rfl rfl (by decide) (by decide) hk1 hFc hP1 hD1
  have hK := (hK.sub (tys' := []) [] rfl).app hK1
  generalize H1 = H at hP hS hce ⊢
  have hP : va_P (dC, dI) vwCl [(h0, .inr (11, [v0, v1, v2, .ref a, v4, v5, v6, v7])), (a, .inr (4, [w0, w1, .int 0]))] H := hP
  have hD : va_D A [(h0, .inr (11, [v0, v1, v2, .ref a, v4, v5, v6, v7])), (a, .inr (4, [w0, w1, .int 0]))] := hD
  have hK : va_K (dC, dI) vwCl [] s := hK
  have hP9 := hP.sub (ws' := [(h0, .inr (11, [v0, v1, v2, .ref a, v4, v5, v6, v7])), (a, .inr (4, [w0, w1, .int 0]))]) [0, 1] rfl
  have hD9 := hD.sub (ws' := [(h0, .inr (11, [v0, v1, v2, .ref a, v4, v5, v6, v7])), (a, .inr (4, [w0, w1, .int 0]))]) [0, 1] (by decide) rfl
  have hK9 := hK.sub (tys' := []) [] rfl
  exact vx_out (fun x hx => (htab x hx).elim) hlocks hce hcv hcl (fun t ht ha => ⟨(), trivial, ⟨rfl, by rw [ht]; exact hP9, va_K.moved ha hK9, hD9⟩, hS.F ht⟩) hS.2.2 (Nat.le_of_ble_eq_true rfl) (Nat.le_of_ble_eq_true rfl)
set_option maxHeartbeats 4000000 in
set_option maxRecDepth 100000 in
theorem x_countOver (l : Launch) (hl9 : l.stackTraces = false) (dC : Nat → ClassId) (dI : Nat → Nat → Nat) (sz : Nat) (ed : Nat) (h0 : Nat) (a : Nat) (v0 : Value) (v1 : Value) (v2 : Value) (v4 : Value) (v5 : Value) (v6 : Value) (v7 : Value) (w0 : Value) (w1 : Value) (p0 : Int32) : vx_Met l yX6_countOver (pw_ws yX6_countOver cX6_countOver 2 (some .int)) ({ frames := 7, cells := 1, slots := 6, locals := 121 } : Room) (va_Pc [.ref h0, .int p0] (fun U => U.heap.size = sz ∧ va_P (dC, dI) vwCl [(h0, .inr (11, [v0, v1, v2, .ref a, v4, v5, v6, v7])), (a, .inr (4, [w0, w1, .int 0]))] U.heap ∧ va_K (dC, dI) vwCl [] U ∧ va_D (fun _ => True) [(h0, .inr (11, [v0, v1, v2, .ref a, v4, v5, v6, v7])), (a, .inr (4, [w0, w1, .int 0]))] ∧ pz ed (va_A [(h0, .inr (11, [v0, v1, v2, .ref a, v4, v5, v6, v7])), (a, .inr (4, [w0, w1, .int 0]))] sz) U U.heap)) (va_Qi (fun (_ : Int32) (_ : Unit) => False) (fun (_ : Unit) (_ : State) => True) (va_A [(h0, .inr (11, [v0, v1, v2, .ref a, v4, v5, v6, v7])), (a, .inr (4, [w0, w1, .int 0]))] sz)) (vx_X px_T (fun (E : String) (_ : Unit) (t : State) => E = "java/lang/IndexOutOfBoundsException" ∧ va_P (dC, dI) vwCl [(h0, .inr (11, [v0, v1, v2, .ref a, v4, v5, v6, v7])), (a, .inr (4, [w0, w1, .int 0]))] t.heap ∧ va_K (dC, dI) vwCl [] t ∧ va_D (va_A [(h0, .inr (11, [v0, v1, v2, .ref a, v4, v5, v6, v7])), (a, .inr (4, [w0, w1, .int 0]))] sz) [(h0, .inr (11, [v0, v1, v2, .ref a, v4, v5, v6, v7])), (a, .inr (4, [w0, w1, .int 0]))]) (va_A [(h0, .inr (11, [v0, v1, v2, .ref a, v4, v5, v6, v7])), (a, .inr (4, [w0, w1, .int 0]))] sz)) 1 6 (va_A [(h0, .inr (11, [v0, v1, v2, .ref a, v4, v5, v6, v7])), (a, .inr (4, [w0, w1, .int 0]))] sz) := by
  refine vx_ofW (cc := cX6_countOver) (maxL := 2) (ret := (some .int)) (by decide) rfl ?_
  intro p e s m args below meth c s₁ B hml htab hv
  obtain ⟨rfl, hsz, hP, hK, hD0, hZ⟩ := hv
  have hx := B.exec
  have hb := B.bytes
  have hr := B.returns
  have hts0 := atoms_spec (ws := (pw_ws yX6_countOver cX6_countOver 2 (some .int))) B.pre
  have hts : ∀ w ∈ pw_all, w.before _ s = true := fun w h => hts0 w (List.mem_cons_of_mem _ h)
  have hown : s.vm.findClass RX6 = some m.cls := findClass_of_methodNamed B.named
  have hlocks := B.notSynchronized
  subst hsz
  have hD := hD0.self (sz := s.heap.size)
  generalize hAe : va_A [(h0, .inr (11, [v0, v1, v2, .ref a, v4, v5, v6, v7])), (a, .inr (4, [w0, w1, .int 0]))] s.heap.size = A at hD hZ ⊢
  have hA : ∀ q : Nat, s.heap.size ≤ q → A q := fun q h => by rw [← hAe]; exact Or.inr h
  have hS : va_S A s.heap s.heap [] := va_S.rf
  have hP : va_P (dC, dI) vwCl [(h0, .inr (11, [v0, v1, v2, .ref a, v4, v5, v6, v7])), (a, .inr (4, [w0, w1, .int 0]))] s.heap := hP
  have hl := lv_entry ([.ref h0, .int p0]) (n := 2) (Nat.le_of_ble_eq_true rfl)
  rw [lg_entry_eq]
  generalize (lg_sl ([.ref h0, .int p0]) ++ List.replicate (2 - (lg_sl ([.ref h0, .int p0])).length) Slot.unset).toArray = ls at hl ⊢
  have hl : lv_has ls 2 [(0, .ref h0), (1, .int p0)] := hl
  skip
  refine lv_aload_n hx hb dX6_countOver_0 rfl (lv_at hl 0 rfl) ?_
  refine lv_iload_n hx hb dX6_countOver_1 rfl (lv_at hl 1 rfl) ?_
  have hPc := hP.sub (ws' := [(h0, .inr (11, [v0, v1, v2, .ref a, v4, v5, v6, v7])), (a, .inr (4, [w0, w1, .int 0]))]) [0, 1] rfl
  have hDc := hD.sub (ws' := [(h0, .inr (11, [v0, v1, v2, .ref a, v4, v5, v6, v7])), (a, .inr (4, [w0, w1, .int 0]))]) [0, 1] (by decide) rfl
  have hKc := hK.sub (tys' := []) [] rfl
  have hFc := va_free (wc := [(h0, .inr (11, [v0, v1, v2, .ref a, v4, v5, v6, v7])), (a, .inr (4, [w0, w1, .int 0]))]) hD hS hA [0, 1] rfl
  refine vx_callr (vx_runV (As := [.int p0]) (rest := []) ⟨hx, hb, hml, hown, hts⟩ (m_runAt l hl9 dC dI s.heap.size ed h0 a v0 v1 v2 v4 v5 v6 v7 w0 w1 p0) (cwV 1 hts (pw_V q841 q843 q11 q43 q844) rfl rfl rfl (by decide +kernel) ⟨(Nat.le_of_ble_eq_true rfl), (Nat.le_of_ble_eq_true rfl)⟩) ⟨fun a U g mk q => by obtain ⟨q0, q1, qP, qK, qD, qZ⟩ := q; exact ⟨q0, q1, qP, va_K.moved (u := U) (U := U.calling g mk a) (Vm.Alike.refl U.vm) qK, qD, qZ.same rfl⟩, va_recv hKc hPc (ci := 11) (q0 := 0) rfl rfl, fun U hU hW => ⟨rfl, by rw [hU], by rw [hU]; exact hPc, va_K.moved hW.alike hKc, hDc.weaken (fun _ _ _ _ => trivial), hZ.call hS hFc hU hW⟩⟩ rfl rfl hl.1 rfl (lv_room (Nat.le_of_ble_eq_true rfl)) dX6_countOver_2 ⟨(Nat.le_of_ble_eq_true rfl), (Nat.le_of_ble_eq_true rfl)⟩) hS (fun q _ h => hFc q h) hFc (fun q _ h => hFc q h) (fun E ce q9 u t H1 locs ht hvm hw hB hz1 hk1 hS hce hcv hcl => ?_) (fun u r_132 t H1 locs ht hvm hw hB hz1 hk1 hS => hw.elim)
  obtain ⟨rfl, hP1, hK1, hD1⟩ := hB
  rw [ht] at hP1
  have hK1 := va_K.moved hvm.symm hK1
  obtain ⟨hP, hD⟩ := va_join (wr := []) (w1 := [(h0, .inr (11, [v0, v1, v2, .ref a, v4, v5, v6, v7])), (a, .inr (4, [w0, w1, .int 0]))]) hP hD [0, 1] [] rfl rfl (by decide) (by decide) hk1 hFc hP1 hD1
  have hK := (hK.sub (tys' := []) [] rfl).app hK1
  generalize H1 = H at hP hS hce ⊢
  have hP : va_P (dC, dI) vwCl [(h0, .inr (11, [v0, v1, v2, .ref a, v4, v5, v6, v7])), (a, .inr (4, [w0, w1, .int 0]))] H := hP
  have hD : va_D A [(h0, .inr (11, [v0, v1, v2, .ref a, v4, v5, v6, v7])), (a, .inr (4, [w0, w1, .int 0]))] := hD
  have hK : va_K (dC, dI) vwCl [] s := hK
  have hP9 := hP.sub (ws' := [(h0, .inr (11, [v0, v1, v2, .ref a, v4, v5, v6, v7])), (a, .inr (4, [w0, w1, .int 0]))]) [0, 1] rfl
  have hD9 := hD.sub (ws' := [(h0, .inr (11, [v0, v1, v2, .ref a, v4, v5, v6, v7])), (a, .inr (4, [w0, w1, .int 0]))]) [0, 1] (by decide) rfl
  have hK9 := hK.sub (tys' := []) [] rfl
  exact vx_out (fun x hx => (htab x hx).elim) hlocks hce hcv hcl (fun t ht ha => ⟨(), trivial, ⟨rfl, by rw [ht]; exact hP9, va_K.moved ha hK9, hD9⟩, hS.F ht⟩) hS.2.2 (Nat.le_of_ble_eq_true rfl) (Nat.le_of_ble_eq_true rfl)
set_option maxHeartbeats 4000000 in
set_option maxRecDepth 100000 in
theorem x_countEvents (l : Launch) (hl9 : l.stackTraces = false) (dC : Nat → ClassId) (dI : Nat → Nat → Nat) (sz : Nat) (ed : Nat) (h0 : Nat) (a : Nat) (v0 : Value) (v1 : Value) (v2 : Value) (v4 : Value) (v5 : Value) (v6 : Value) (v7 : Value) (w0 : Value) (w1 : Value) (p0 : Int32) : vx_Met l yX6_countEvents (pw_ws yX6_countEvents cX6_countEvents 2 (some .int)) ({ frames := 7, cells := 1, slots := 6, locals := 121 } : Room) (va_Pc [.ref h0, .int p0] (fun U => U.heap.size = sz ∧ va_P (dC, dI) vwCl [(h0, .inr (11, [v0, v1, v2, .ref a, v4, v5, v6, v7])), (a, .inr (4, [w0, w1, .int 0]))] U.heap ∧ va_K (dC, dI) vwCl [] U ∧ va_D (fun _ => True) [(h0, .inr (11, [v0, v1, v2, .ref a, v4, v5, v6, v7])), (a, .inr (4, [w0, w1, .int 0]))] ∧ pz ed (va_A [(h0, .inr (11, [v0, v1, v2, .ref a, v4, v5, v6, v7])), (a, .inr (4, [w0, w1, .int 0]))] sz) U U.heap)) (va_Qi (fun (_ : Int32) (_ : Unit) => False) (fun (_ : Unit) (_ : State) => True) (va_A [(h0, .inr (11, [v0, v1, v2, .ref a, v4, v5, v6, v7])), (a, .inr (4, [w0, w1, .int 0]))] sz)) (vx_X px_T (fun (E : String) (_ : Unit) (t : State) => E = "java/lang/IndexOutOfBoundsException" ∧ va_P (dC, dI) vwCl [(h0, .inr (11, [v0, v1, v2, .ref a, v4, v5, v6, v7])), (a, .inr (4, [w0, w1, .int 0]))] t.heap ∧ va_K (dC, dI) vwCl [] t ∧ va_D (va_A [(h0, .inr (11, [v0, v1, v2, .ref a, v4, v5, v6, v7])), (a, .inr (4, [w0, w1, .int 0]))] sz) [(h0, .inr (11, [v0, v1, v2, .ref a, v4, v5, v6, v7])), (a, .inr (4, [w0, w1, .int 0]))]) (va_A [(h0, .inr (11, [v0, v1, v2, .ref a, v4, v5, v6, v7])), (a, .inr (4, [w0, w1, .int 0]))] sz)) 1 6 (va_A [(h0, .inr (11, [v0, v1, v2, .ref a, v4, v5, v6, v7])), (a, .inr (4, [w0, w1, .int 0]))] sz) := by
  refine vx_ofW (cc := cX6_countEvents) (maxL := 2) (ret := (some .int)) (by decide) rfl ?_
  intro p e s m args below meth c s₁ B hml htab hv
  obtain ⟨rfl, hsz, hP, hK, hD0, hZ⟩ := hv
  have hx := B.exec
  have hb := B.bytes
  have hr := B.returns
  have hts0 := atoms_spec (ws := (pw_ws yX6_countEvents cX6_countEvents 2 (some .int))) B.pre
  have hts : ∀ w ∈ pw_all, w.before _ s = true := fun w h => hts0 w (List.mem_cons_of_mem _ h)
  have hown : s.vm.findClass RX6 = some m.cls := findClass_of_methodNamed B.named
  have hlocks := B.notSynchronized
  subst hsz
  have hD := hD0.self (sz := s.heap.size)
  generalize hAe : va_A [(h0, .inr (11, [v0, v1, v2, .ref a, v4, v5, v6, v7])), (a, .inr (4, [w0, w1, .int 0]))] s.heap.size = A at hD hZ ⊢
  have hA : ∀ q : Nat, s.heap.size ≤ q → A q := fun q h => by rw [← hAe]; exact Or.inr h
  have hS : va_S A s.heap s.heap [] := va_S.rf
  have hP : va_P (dC, dI) vwCl [(h0, .inr (11, [v0, v1, v2, .ref a, v4, v5, v6, v7])), (a, .inr (4, [w0, w1, .int 0]))] s.heap := hP
  have hl := lv_entry ([.ref h0, .int p0]) (n := 2) (Nat.le_of_ble_eq_true rfl)
  rw [lg_entry_eq]
  generalize (lg_sl ([.ref h0, .int p0]) ++ List.replicate (2 - (lg_sl ([.ref h0, .int p0])).length) Slot.unset).toArray = ls at hl ⊢
  have hl : lv_has ls 2 [(0, .ref h0), (1, .int p0)] := hl
  skip
  refine lv_aload_n hx hb dX6_countEvents_0 rfl (lv_at hl 0 rfl) ?_
  refine lv_iload_n hx hb dX6_countEvents_1 rfl (lv_at hl 1 rfl) ?_
  have hPc := hP.sub (ws' := [(h0, .inr (11, [v0, v1, v2, .ref a, v4, v5, v6, v7])), (a, .inr (4, [w0, w1, .int 0]))]) [0, 1] rfl
  have hDc := hD.sub (ws' := [(h0, .inr (11, [v0, v1, v2, .ref a, v4, v5, v6, v7])), (a, .inr (4, [w0, w1, .int 0]))]) [0, 1] (by decide) rfl
  have hKc := hK.sub (tys' := []) [] rfl
  have hFc := va_free (wc := [(h0, .inr (11, [v0, v1, v2, .ref a, v4, v5, v6, v7])), (a, .inr (4, [w0, w1, .int 0]))]) hD hS hA [0, 1] rfl
  refine vx_callr (vx_runV (As := [.int p0]) (rest := []) ⟨hx, hb, hml, hown, hts⟩ (m_runAt l hl9 dC dI s.heap.size ed h0 a v0 v1 v2 v4 v5 v6 v7 w0 w1 p0) (cwV 1 hts (pw_V q841 q843 q11 q43 q844) rfl rfl rfl (by decide +kernel) ⟨(Nat.le_of_ble_eq_true rfl), (Nat.le_of_ble_eq_true rfl)⟩) ⟨fun a U g mk q => by obtain ⟨q0, q1, qP, qK, qD, qZ⟩ := q; exact ⟨q0, q1, qP, va_K.moved (u := U) (U := U.calling g mk a) (Vm.Alike.refl U.vm) qK, qD, qZ.same rfl⟩, va_recv hKc hPc (ci := 11) (q0 := 0) rfl rfl, fun U hU hW => ⟨rfl, by rw [hU], by rw [hU]; exact hPc, va_K.moved hW.alike hKc, hDc.weaken (fun _ _ _ _ => trivial), hZ.call hS hFc hU hW⟩⟩ rfl rfl hl.1 rfl (lv_room (Nat.le_of_ble_eq_true rfl)) dX6_countEvents_2 ⟨(Nat.le_of_ble_eq_true rfl), (Nat.le_of_ble_eq_true rfl)⟩) hS (fun q _ h => hFc q h) hFc (fun q _ h => hFc q h) (fun E ce q9 u t H1 locs ht hvm hw hB hz1 hk1 hS hce hcv hcl => ?_) (fun u r_133 t H1 locs ht hvm hw hB hz1 hk1 hS => hw.elim)
  obtain ⟨rfl, hP1, hK1, hD1⟩ := hB
  rw [ht] at hP1
  have hK1 := va_K.moved hvm.symm hK1
  obtain ⟨hP, hD⟩ := va_join (wr := []) (w1 := [(h0, .inr (11, [v0, v1, v2, .ref a, v4, v5, v6, v7])), (a, .inr (4, [w0, w1, .int 0]))]) hP hD [0, 1] [] rfl rfl (by decide) (by decide) hk1 hFc hP1 hD1
  have hK := (hK.sub (tys' := []) [] rfl).app hK1
  generalize H1 = H at hP hS hce ⊢
  have hP : va_P (dC, dI) vwCl [(h0, .inr (11, [v0, v1, v2, .ref a, v4, v5, v6, v7])), (a, .inr (4, [w0, w1, .int 0]))] H := hP
  have hD : va_D A [(h0, .inr (11, [v0, v1, v2, .ref a, v4, v5, v6, v7])), (a, .inr (4, [w0, w1, .int 0]))] := hD
  have hK : va_K (dC, dI) vwCl [] s := hK
  have hP9 := hP.sub (ws' := [(h0, .inr (11, [v0, v1, v2, .ref a, v4, v5, v6, v7])), (a, .inr (4, [w0, w1, .int 0]))]) [0, 1] rfl
  have hD9 := hD.sub (ws' := [(h0, .inr (11, [v0, v1, v2, .ref a, v4, v5, v6, v7])), (a, .inr (4, [w0, w1, .int 0]))]) [0, 1] (by decide) rfl
  have hK9 := hK.sub (tys' := []) [] rfl
  exact vx_out (fun x hx => (htab x hx).elim) hlocks hce hcv hcl (fun t ht ha => ⟨(), trivial, ⟨rfl, by rw [ht]; exact hP9, va_K.moved ha hK9, hD9⟩, hS.F ht⟩) hS.2.2 (Nat.le_of_ble_eq_true rfl) (Nat.le_of_ble_eq_true rfl)
set_option maxHeartbeats 4000000 in
set_option maxRecDepth 100000 in
theorem x_getEvent (l : Launch) (hl9 : l.stackTraces = false) (dC : Nat → ClassId) (dI : Nat → Nat → Nat) (sz : Nat) (ed : Nat) (h0 : Nat) (a : Nat) (v0 : Value) (v1 : Value) (v2 : Value) (v4 : Value) (v5 : Value) (v6 : Value) (v7 : Value) (w0 : Value) (w1 : Value) (p0 : Int32) (p1 : Int32) : vx_Met l yX6_getEvent (pw_ws yX6_getEvent cX6_getEvent 4 (some .char)) ({ frames := 7, cells := 1, slots := 6, locals := 121 } : Room) (va_Pc [.ref h0, .int p0, .int p1] (fun U => U.heap.size = sz ∧ va_P (dC, dI) vwCl [(h0, .inr (11, [v0, v1, v2, .ref a, v4, v5, v6, v7])), (a, .inr (4, [w0, w1, .int 0]))] U.heap ∧ va_K (dC, dI) vwCl [] U ∧ va_D (fun _ => True) [(h0, .inr (11, [v0, v1, v2, .ref a, v4, v5, v6, v7])), (a, .inr (4, [w0, w1, .int 0]))] ∧ pz ed (va_A [(h0, .inr (11, [v0, v1, v2, .ref a, v4, v5, v6, v7])), (a, .inr (4, [w0, w1, .int 0]))] sz) U U.heap)) (va_Qi (fun (_ : Int32) (_ : Unit) => False) (fun (_ : Unit) (_ : State) => True) (va_A [(h0, .inr (11, [v0, v1, v2, .ref a, v4, v5, v6, v7])), (a, .inr (4, [w0, w1, .int 0]))] sz)) (vx_X px_T (fun (E : String) (_ : Unit) (t : State) => E = "java/lang/IndexOutOfBoundsException" ∧ va_P (dC, dI) vwCl [(h0, .inr (11, [v0, v1, v2, .ref a, v4, v5, v6, v7])), (a, .inr (4, [w0, w1, .int 0]))] t.heap ∧ va_K (dC, dI) vwCl [] t ∧ va_D (va_A [(h0, .inr (11, [v0, v1, v2, .ref a, v4, v5, v6, v7])), (a, .inr (4, [w0, w1, .int 0]))] sz) [(h0, .inr (11, [v0, v1, v2, .ref a, v4, v5, v6, v7])), (a, .inr (4, [w0, w1, .int 0]))]) (va_A [(h0, .inr (11, [v0, v1, v2, .ref a, v4, v5, v6, v7])), (a, .inr (4, [w0, w1, .int 0]))] sz)) 1 6 (va_A [(h0, .inr (11, [v0, v1, v2, .ref a, v4, v5, v6, v7])), (a, .inr (4, [w0, w1, .int 0]))] sz) := by
  refine vx_ofW (cc := cX6_getEvent) (maxL := 4) (ret := (some .char)) (by decide) rfl ?_
  intro p e s m args below meth c s₁ B hml htab hv
  obtain ⟨rfl, hsz, hP, hK, hD0, hZ⟩ := hv
  have hx := B.exec
  have hb := B.bytes
  have hr := B.returns
  have hts0 := atoms_spec (ws := (pw_ws yX6_getEvent cX6_getEvent 4 (some .char))) B.pre
  have hts : ∀ w ∈ pw_all, w.before _ s = true := fun w h => hts0 w (List.mem_cons_of_mem _ h)
  have hown : s.vm.findClass RX6 = some m.cls := findClass_of_methodNamed B.named
  have hlocks := B.notSynchronized
  subst hsz
  have hD := hD0.self (sz := s.heap.size)
  generalize hAe : va_A [(h0, .inr (11, [v0, v1, v2, .ref a, v4, v5, v6, v7])), (a, .inr (4, [w0, w1, .int 0]))] s.heap.size = A at hD hZ ⊢
  have hA : ∀ q : Nat, s.heap.size ≤ q → A q := fun q h => by rw [← hAe]; exact Or.inr h
  have hS : va_S A s.heap s.heap [] := va_S.rf
  have hP : va_P (dC, dI) vwCl [(h0, .inr (11, [v0, v1, v2, .ref a, v4, v5, v6, v7])), (a, .inr (4, [w0, w1, .int 0]))] s.heap := hP
  have hl := lv_entry ([.ref h0, .int p0, .int p1]) (n := 4) (Nat.le_of_ble_eq_true rfl)
  rw [lg_entry_eq]
  generalize (lg_sl ([.ref h0, .int p0, .int p1]) ++ List.replicate (4 - (lg_sl ([.ref h0, .int p0, .int p1])).length) Slot.unset).toArray = ls at hl ⊢
  have hl : lv_has ls 4 [(0, .ref h0), (1, .int p0), (2, .int p1)] := hl
  skip
  refine lv_aload_n hx hb dX6_getEvent_0 rfl (lv_at hl 0 rfl) ?_
  refine lv_iload_n hx hb dX6_getEvent_1 rfl (lv_at hl 1 rfl) ?_
  have hPc := hP.sub (ws' := [(h0, .inr (11, [v0, v1, v2, .ref a, v4, v5, v6, v7])), (a, .inr (4, [w0, w1, .int 0]))]) [0, 1] rfl
  have hDc := hD.sub (ws' := [(h0, .inr (11, [v0, v1, v2, .ref a, v4, v5, v6, v7])), (a, .inr (4, [w0, w1, .int 0]))]) [0, 1] (by decide) rfl
  have hKc := hK.sub (tys' := []) [] rfl
  have hFc := va_free (wc := [(h0, .inr (11, [v0, v1, v2, .ref a, v4, v5, v6, v7])), (a, .inr (4, [w0, w1, .int 0]))]) hD hS hA [0, 1] rfl
  refine vx_callr (vx_runV (As := [.int p0]) (rest := []) ⟨hx, hb, hml, hown, hts⟩ (m_runAt l hl9 dC dI s.heap.size ed h0 a v0 v1 v2 v4 v5 v6 v7 w0 w1 p0) (cwV 1 hts (pw_V q841 q843 q11 q43 q844) rfl rfl rfl (by decide +kernel) ⟨(Nat.le_of_ble_eq_true rfl), (Nat.le_of_ble_eq_true rfl)⟩) ⟨fun a U g mk q => by obtain ⟨q0, q1, qP, qK, qD, qZ⟩ := q; exact ⟨q0, q1, qP, va_K.moved (u := U) (U := U.calling g mk a) (Vm.Alike.refl U.vm) qK, qD, qZ.same rfl⟩, va_recv hKc hPc (ci := 11) (q0 := 0) rfl rfl, fun U hU hW => ⟨rfl, by rw [hU], by rw [hU]; exact hPc, va_K.moved hW.alike hKc, hDc.weaken (fun _ _ _ _ => trivial), hZ.call hS hFc hU hW⟩⟩ rfl rfl hl.1 rfl (lv_room (Nat.le_of_ble_eq_true rfl)) dX6_getEvent_2 ⟨(Nat.le_of_ble_eq_true rfl), (Nat.le_of_ble_eq_true rfl)⟩) hS (fun q _ h => hFc q h) hFc (fun q _ h => hFc q h) (fun E ce q9 u t H1 locs ht hvm hw hB hz1 hk1 hS hce hcv hcl => ?_) (fun u r_134 t H1 locs ht hvm hw hB hz1 hk1 hS => hw.elim)
  obtain ⟨rfl, hP1, hK1, hD1⟩ := hB
  rw [ht] at hP1
  have hK1 := va_K.moved hvm.symm hK1
  obtain ⟨hP, hD⟩ := va_join (wr := []) (w1 := [(h0, .inr (11, [v0, v1, v2, .ref a, v4, v5, v6, v7])), (a, .inr (4, [w0, w1, .int 0]))]) hP hD [0, 1] [] rfl rfl (by decide) (by decide) hk1 hFc hP1 hD1
  have hK := (hK.sub (tys' := []) [] rfl).app hK1
  generalize H1 = H at hP hS hce ⊢
  have hP : va_P (dC, dI) vwCl [(h0, .inr (11, [v0, v1, v2, .ref a, v4, v5, v6, v7])), (a, .inr (4, [w0, w1, .int 0]))] H := hP
  have hD : va_D A [(h0, .inr (11, [v0, v1, v2, .ref a, v4, v5, v6, v7])), (a, .inr (4, [w0, w1, .int 0]))] := hD
  have hK : va_K (dC, dI) vwCl [] s := hK
  have hP9 := hP.sub (ws' := [(h0, .inr (11, [v0, v1, v2, .ref a, v4, v5, v6, v7])), (a, .inr (4, [w0, w1, .int 0]))]) [0, 1] rfl
  have hD9 := hD.sub (ws' := [(h0, .inr (11, [v0, v1, v2, .ref a, v4, v5, v6, v7])), (a, .inr (4, [w0, w1, .int 0]))]) [0, 1] (by decide) rfl
  have hK9 := hK.sub (tys' := []) [] rfl
  exact vx_out (fun x hx => (htab x hx).elim) hlocks hce hcv hcl (fun t ht ha => ⟨(), trivial, ⟨rfl, by rw [ht]; exact hP9, va_K.moved ha hK9, hD9⟩, hS.F ht⟩) hS.2.2 (Nat.le_of_ble_eq_true rfl) (Nat.le_of_ble_eq_true rfl)
set_option maxHeartbeats 4000000 in
set_option maxRecDepth 100000 in
theorem x_bandShare (l : Launch) (hl9 : l.stackTraces = false) (dC : Nat → ClassId) (dI : Nat → Nat → Nat) (sz : Nat) (ed : Nat) (h0 : Nat) (a : Nat) (v0 : Value) (v1 : Value) (v2 : Value) (v4 : Value) (v5 : Value) (v6 : Value) (v7 : Value) (w0 : Value) (w1 : Value) (p0 : Int32) : vx_Met l yX6_bandShare (pw_ws yX6_bandShare cX6_bandShare 2 (some .float)) ({ frames := 7, cells := 1, slots := 6, locals := 121 } : Room) (va_Pc [.ref h0, .int p0] (fun U => U.heap.size = sz ∧ va_P (dC, dI) vwCl [(h0, .inr (11, [v0, v1, v2, .ref a, v4, v5, v6, v7])), (a, .inr (4, [w0, w1, .int 0]))] U.heap ∧ va_K (dC, dI) vwCl [] U ∧ va_D (fun _ => True) [(h0, .inr (11, [v0, v1, v2, .ref a, v4, v5, v6, v7])), (a, .inr (4, [w0, w1, .int 0]))] ∧ pz ed (va_A [(h0, .inr (11, [v0, v1, v2, .ref a, v4, v5, v6, v7])), (a, .inr (4, [w0, w1, .int 0]))] sz) U U.heap)) (va_Qf (fun (_ : UInt32) (_ : Unit) => False) (fun (_ : Unit) (_ : State) => True) (va_A [(h0, .inr (11, [v0, v1, v2, .ref a, v4, v5, v6, v7])), (a, .inr (4, [w0, w1, .int 0]))] sz)) (vx_X px_T (fun (E : String) (_ : Unit) (t : State) => E = "java/lang/IndexOutOfBoundsException" ∧ va_P (dC, dI) vwCl [(h0, .inr (11, [v0, v1, v2, .ref a, v4, v5, v6, v7])), (a, .inr (4, [w0, w1, .int 0]))] t.heap ∧ va_K (dC, dI) vwCl [] t ∧ va_D (va_A [(h0, .inr (11, [v0, v1, v2, .ref a, v4, v5, v6, v7])), (a, .inr (4, [w0, w1, .int 0]))] sz) [(h0, .inr (11, [v0, v1, v2, .ref a, v4, v5, v6, v7])), (a, .inr (4, [w0, w1, .int 0]))]) (va_A [(h0, .inr (11, [v0, v1, v2, .ref a, v4, v5, v6, v7])), (a, .inr (4, [w0, w1, .int 0]))] sz)) 1 6 (va_A [(h0, .inr (11, [v0, v1, v2, .ref a, v4, v5, v6, v7])), (a, .inr (4, [w0, w1, .int 0]))] sz) := by
  refine vx_ofW (cc := cX6_bandShare) (maxL := 2) (ret := (some .float)) (by decide) rfl ?_
  intro p e s m args below meth c s₁ B hml htab hv
  obtain ⟨rfl, hsz, hP, hK, hD0, hZ⟩ := hv
  have hx := B.exec
  have hb := B.bytes
  have hr := B.returns
  have hts0 := atoms_spec (ws := (pw_ws yX6_bandShare cX6_bandShare 2 (some .float))) B.pre
  have hts : ∀ w ∈ pw_all, w.before _ s = true := fun w h => hts0 w (List.mem_cons_of_mem _ h)
  have hown : s.vm.findClass RX6 = some m.cls := findClass_of_methodNamed B.named
  have hlocks := B.notSynchronized
  subst hsz
  have hD := hD0.self (sz := s.heap.size)
  generalize hAe : va_A [(h0, .inr (11, [v0, v1, v2, .ref a, v4, v5, v6, v7])), (a, .inr (4, [w0, w1, .int 0]))] s.heap.size = A at hD hZ ⊢
  have hA : ∀ q : Nat, s.heap.size ≤ q → A q := fun q h => by rw [← hAe]; exact Or.inr h
  have hS : va_S A s.heap s.heap [] := va_S.rf
  have hP : va_P (dC, dI) vwCl [(h0, .inr (11, [v0, v1, v2, .ref a, v4, v5, v6, v7])), (a, .inr (4, [w0, w1, .int 0]))] s.heap := hP
  have hl := lv_entry ([.ref h0, .int p0]) (n := 2) (Nat.le_of_ble_eq_true rfl)
  rw [lg_entry_eq]
  generalize (lg_sl ([.ref h0, .int p0]) ++ List.replicate (2 - (lg_sl ([.ref h0, .int p0])).length) Slot.unset).toArray = ls at hl ⊢
  have hl : lv_has ls 2 [(0, .ref h0), (1, .int p0)] := hl
  skip
  refine lv_aload_n hx hb dX6_bandShare_0 rfl (lv_at hl 0 rfl) ?_
  refine lv_iload_n hx hb dX6_bandShare_1 rfl (lv_at hl 1 rfl) ?_
  have hPc := hP.sub (ws' := [(h0, .inr (11, [v0, v1, v2, .ref a, v4, v5, v6, v7])), (a, .inr (4, [w0, w1, .int 0]))]) [0, 1] rfl
  have hDc := hD.sub (ws' := [(h0, .inr (11, [v0, v1, v2, .ref a, v4, v5, v6, v7])), (a, .inr (4, [w0, w1, .int 0]))]) [0, 1] (by decide) rfl
  have hKc := hK.sub (tys' := []) [] rfl
  have hFc := va_free (wc := [(h0, .inr (11, [v0, v1, v2, .ref a, v4, v5, v6, v7])), (a, .inr (4, [w0, w1, .int 0]))]) hD hS hA [0, 1] rfl
  refine vx_callr (vx_runV (As := [.int p0]) (rest := []) ⟨hx, hb, hml, hown, hts⟩ (m_runAt l hl9 dC dI s.heap.size ed h0 a v0 v1 v2 v4 v5 v6 v7 w0 w1 p0) (cwV 1 hts (pw_V q841 q843 q11 q43 q844) rfl rfl rfl (by decide +kernel) ⟨(Nat.le_of_ble_eq_true rfl), (Nat.le_of_ble_eq_true rfl)⟩) ⟨fun a U g mk q => by obtain ⟨q0, q1, qP, qK, qD, qZ⟩ := q; exact ⟨q0, q1, qP, va_K.moved (u := U) (U := U.calling g mk a) (Vm.Alike.refl U.vm) qK, qD, qZ.same rfl⟩, va_recv hKc hPc (ci := 11) (q0 := 0) rfl rfl, fun U hU hW => ⟨rfl, by rw [hU], by rw [hU]; exact hPc, va_K.moved hW.alike hKc, hDc.weaken (fun _ _ _ _ => trivial), hZ.call hS hFc hU hW⟩⟩ rfl rfl hl.1 rfl (lv_room (Nat.le_of_ble_eq_true rfl)) dX6_bandShare_2 ⟨(Nat.le_of_ble_eq_true rfl), (Nat.le_of_ble_eq_true rfl)⟩) hS (fun q _ h => hFc q h) hFc (fun q _ h => hFc q h) (fun E ce q9 u t H1 locs ht hvm hw hB hz1 hk1 hS hce hcv hcl => ?_) (fun u r_135 t H1 locs ht hvm hw hB hz1 hk1 hS => hw.elim)
  obtain ⟨rfl, hP1, hK1, hD1⟩ := hB
  rw [ht] at hP1
  have hK1 := va_K.moved hvm.symm hK1
  obtain ⟨hP, hD⟩ := va_join (wr := []) (w1 := [(h0, .inr (11, [v0, v1, v2, .ref a, v4, v5, v6, v7])), (a, .inr (4, [w0, w1, .int 0]))]) hP hD [0, 1] [] rfl rfl (by decide) (by decide) hk1 hFc hP1 hD1
  have hK := (hK.sub (tys' := []) [] rfl).app hK1
  generalize H1 = H at hP hS hce ⊢
  have hP : va_P (dC, dI) vwCl [(h0, .inr (11, [v0, v1, v2, .ref a, v4, v5, v6, v7])), (a, .inr (4, [w0, w1, .int 0]))] H := hP
  have hD : va_D A [(h0, .inr (11, [v0, v1, v2, .ref a, v4, v5, v6, v7])), (a, .inr (4, [w0, w1, .int 0]))] := hD
  have hK : va_K (dC, dI) vwCl [] s := hK
  have hP9 := hP.sub (ws' := [(h0, .inr (11, [v0, v1, v2, .ref a, v4, v5, v6, v7])), (a, .inr (4, [w0, w1, .int 0]))]) [0, 1] rfl
  have hD9 := hD.sub (ws' := [(h0, .inr (11, [v0, v1, v2, .ref a, v4, v5, v6, v7])), (a, .inr (4, [w0, w1, .int 0]))]) [0, 1] (by decide) rfl
  have hK9 := hK.sub (tys' := []) [] rfl
  exact vx_out (fun x hx => (htab x hx).elim) hlocks hce hcv hcl (fun t ht ha => ⟨(), trivial, ⟨rfl, by rw [ht]; exact hP9, va_K.moved ha hK9, hD9⟩, hS.F ht⟩) hS.2.2 (Nat.le_of_ble_eq_true rfl) (Nat.le_of_ble_eq_true rfl)
set_option maxHeartbeats 4000000 in
set_option maxRecDepth 100000 in
theorem x_meanDrive (l : Launch) (hl9 : l.stackTraces = false) (dC : Nat → ClassId) (dI : Nat → Nat → Nat) (sz : Nat) (ed : Nat) (h0 : Nat) (a : Nat) (v0 : Value) (v1 : Value) (v2 : Value) (v4 : Value) (v5 : Value) (v6 : Value) (v7 : Value) (w0 : Value) (w1 : Value) (p0 : Int32) : vx_Met l yX6_meanDrive (pw_ws yX6_meanDrive cX6_meanDrive 2 (some .double)) ({ frames := 7, cells := 1, slots := 6, locals := 121 } : Room) (va_Pc [.ref h0, .int p0] (fun U => U.heap.size = sz ∧ va_P (dC, dI) vwCl [(h0, .inr (11, [v0, v1, v2, .ref a, v4, v5, v6, v7])), (a, .inr (4, [w0, w1, .int 0]))] U.heap ∧ va_K (dC, dI) vwCl [] U ∧ va_D (fun _ => True) [(h0, .inr (11, [v0, v1, v2, .ref a, v4, v5, v6, v7])), (a, .inr (4, [w0, w1, .int 0]))] ∧ pz ed (va_A [(h0, .inr (11, [v0, v1, v2, .ref a, v4, v5, v6, v7])), (a, .inr (4, [w0, w1, .int 0]))] sz) U U.heap)) (va_Qd (fun (_ : UInt64) (_ : Unit) => False) (fun (_ : Unit) (_ : State) => True) (va_A [(h0, .inr (11, [v0, v1, v2, .ref a, v4, v5, v6, v7])), (a, .inr (4, [w0, w1, .int 0]))] sz)) (vx_X px_T (fun (E : String) (_ : Unit) (t : State) => E = "java/lang/IndexOutOfBoundsException" ∧ va_P (dC, dI) vwCl [(h0, .inr (11, [v0, v1, v2, .ref a, v4, v5, v6, v7])), (a, .inr (4, [w0, w1, .int 0]))] t.heap ∧ va_K (dC, dI) vwCl [] t ∧ va_D (va_A [(h0, .inr (11, [v0, v1, v2, .ref a, v4, v5, v6, v7])), (a, .inr (4, [w0, w1, .int 0]))] sz) [(h0, .inr (11, [v0, v1, v2, .ref a, v4, v5, v6, v7])), (a, .inr (4, [w0, w1, .int 0]))]) (va_A [(h0, .inr (11, [v0, v1, v2, .ref a, v4, v5, v6, v7])), (a, .inr (4, [w0, w1, .int 0]))] sz)) 1 6 (va_A [(h0, .inr (11, [v0, v1, v2, .ref a, v4, v5, v6, v7])), (a, .inr (4, [w0, w1, .int 0]))] sz) := by
  refine vx_ofW (cc := cX6_meanDrive) (maxL := 2) (ret := (some .double)) (by decide) rfl ?_
  intro p e s m args below meth c s₁ B hml htab hv
  obtain ⟨rfl, hsz, hP, hK, hD0, hZ⟩ := hv
  have hx := B.exec
  have hb := B.bytes
  have hr := B.returns
  have hts0 := atoms_spec (ws := (pw_ws yX6_meanDrive cX6_meanDrive 2 (some .double))) B.pre
  have hts : ∀ w ∈ pw_all, w.before _ s = true := fun w h => hts0 w (List.mem_cons_of_mem _ h)
  have hown : s.vm.findClass RX6 = some m.cls := findClass_of_methodNamed B.named
  have hlocks := B.notSynchronized
  subst hsz
  have hD := hD0.self (sz := s.heap.size)
  generalize hAe : va_A [(h0, .inr (11, [v0, v1, v2, .ref a, v4, v5, v6, v7])), (a, .inr (4, [w0, w1, .int 0]))] s.heap.size = A at hD hZ ⊢
  have hA : ∀ q : Nat, s.heap.size ≤ q → A q := fun q h => by rw [← hAe]; exact Or.inr h
  have hS : va_S A s.heap s.heap [] := va_S.rf
  have hP : va_P (dC, dI) vwCl [(h0, .inr (11, [v0, v1, v2, .ref a, v4, v5, v6, v7])), (a, .inr (4, [w0, w1, .int 0]))] s.heap := hP
  have hl := lv_entry ([.ref h0, .int p0]) (n := 2) (Nat.le_of_ble_eq_true rfl)
  rw [lg_entry_eq]
  generalize (lg_sl ([.ref h0, .int p0]) ++ List.replicate (2 - (lg_sl ([.ref h0, .int p0])).length) Slot.unset).toArray = ls at hl ⊢
  have hl : lv_has ls 2 [(0, .ref h0), (1, .int p0)] := hl
  skip
  refine lv_aload_n hx hb dX6_meanDrive_0 rfl (lv_at hl 0 rfl) ?_
  refine lv_iload_n hx hb dX6_meanDrive_1 rfl (lv_at hl 1 rfl) ?_
  have hPc := hP.sub (ws' := [(h0, .inr (11, [v0, v1, v2, .ref a, v4, v5, v6, v7])), (a, .inr (4, [w0, w1, .int 0]))]) [0, 1] rfl
  have hDc := hD.sub (ws' := [(h0, .inr (11, [v0, v1, v2, .ref a, v4, v5, v6, v7])), (a, .inr (4, [w0, w1, .int 0]))]) [0, 1] (by decide) rfl
  have hKc := hK.sub (tys' := []) [] rfl
  have hFc := va_free (wc := [(h0, .inr (11, [v0, v1, v2, .ref a, v4, v5, v6, v7])), (a, .inr (4, [w0, w1, .int 0]))]) hD hS hA [0, 1] rfl
  refine vx_callr (vx_runV (As := [.int p0]) (rest := []) ⟨hx, hb, hml, hown, hts⟩ (m_runAt l hl9 dC dI s.heap.size ed h0 a v0 v1 v2 v4 v5 v6 v7 w0 w1 p0) (cwV 1 hts (pw_V q841 q843 q11 q43 q844) rfl rfl rfl (by decide +kernel) ⟨(Nat.le_of_ble_eq_true rfl), (Nat.le_of_ble_eq_true rfl)⟩) ⟨fun a U g mk q => by obtain ⟨q0, q1, qP, qK, qD, qZ⟩ := q; exact ⟨q0, q1, qP, va_K.moved (u := U) (U := U.calling g mk a) (Vm.Alike.refl U.vm) qK, qD, qZ.same rfl⟩, va_recv hKc hPc (ci := 11) (q0 := 0) rfl rfl, fun U hU hW => ⟨rfl, by rw [hU], by rw [hU]; exact hPc, va_K.moved hW.alike hKc, hDc.weaken (fun _ _ _ _ => trivial), hZ.call hS hFc hU hW⟩⟩ rfl rfl hl.1 rfl (lv_room (Nat.le_of_ble_eq_true rfl)) dX6_meanDrive_2 ⟨(Nat.le_of_ble_eq_true rfl), (Nat.le_of_ble_eq_true rfl)⟩) hS (fun q _ h => hFc q h) hFc (fun q _ h => hFc q h) (fun E ce q9 u t H1 locs ht hvm hw hB hz1 hk1 hS hce hcv hcl => ?_) (fun u r_136 t H1 locs ht hvm hw hB hz1 hk1 hS => hw.elim)
  obtain ⟨rfl, hP1, hK1, hD1⟩ := hB
  rw [ht] at hP1
  have hK1 := va_K.moved hvm.symm hK1
  obtain ⟨hP, hD⟩ := va_join (wr := []) (w1 := [(h0, .inr (11, [v0, v1, v2, .ref a, v4, v5, v6, v7])), (a, .inr (4, [w0, w1, .int 0]))]) hP hD [0, 1] [] rfl rfl (by decide) (by decide) hk1 hFc hP1 hD1
  have hK := (hK.sub (tys' := []) [] rfl).app hK1
  generalize H1 = H at hP hS hce ⊢
  have hP : va_P (dC, dI) vwCl [(h0, .inr (11, [v0, v1, v2, .ref a, v4, v5, v6, v7])), (a, .inr (4, [w0, w1, .int 0]))] H := hP
  have hD : va_D A [(h0, .inr (11, [v0, v1, v2, .ref a, v4, v5, v6, v7])), (a, .inr (4, [w0, w1, .int 0]))] := hD
  have hK : va_K (dC, dI) vwCl [] s := hK
  have hP9 := hP.sub (ws' := [(h0, .inr (11, [v0, v1, v2, .ref a, v4, v5, v6, v7])), (a, .inr (4, [w0, w1, .int 0]))]) [0, 1] rfl
  have hD9 := hD.sub (ws' := [(h0, .inr (11, [v0, v1, v2, .ref a, v4, v5, v6, v7])), (a, .inr (4, [w0, w1, .int 0]))]) [0, 1] (by decide) rfl
  have hK9 := hK.sub (tys' := []) [] rfl
  exact vx_out (fun x hx => (htab x hx).elim) hlocks hce hcv hcl (fun t ht ha => ⟨(), trivial, ⟨rfl, by rw [ht]; exact hP9, va_K.moved ha hK9, hD9⟩, hS.F ht⟩) hS.2.2 (Nat.le_of_ble_eq_true rfl) (Nat.le_of_ble_eq_true rfl)
