set_option maxHeartbeats 4000000 in
set_option maxRecDepth 100000 in
theorem y_addMass (l : Launch) (dC : Nat → ClassId) (dI : Nat → Nat → Nat) (sz : Nat) (h0 : Nat) (a : Nat) (v1 : Value) (v2 : Value) (v3 : Value) (v4 : Value) (w0 : Value) (w1 : Value) (th : Int32) (p0 : Int32) (p1 : Int32) (p2 : Int32) (p3 : Int32) : Met l yX10_addMass (pw_ws yX10_addMass cX10_addMass 5 (some .int)) ({ frames := 3, cells := 0, slots := 0, locals := 63 } : Room) (va_Pc [.ref h0, .int p0, .int p1, .int p2, .int p3] (fun U => U.heap.size = sz ∧ va_P (dC, dI) vwCl [(h0, .inr (15, [.ref a, v1, v2, v3, v4, .int th])), (a, .inr (4, [w0, w1, .int 0]))] U.heap ∧ va_K (dC, dI) vwCl [] U ∧ va_D (fun _ => True) [(h0, .inr (15, [.ref a, v1, v2, v3, v4, .int th])), (a, .inr (4, [w0, w1, .int 0]))])) (va_Qi (fun (r : Int32) (_ : Unit) => r = 0) (fun (_ : Unit) (t : State) => va_P (dC, dI) vwCl [(h0, .inr (15, [.ref a, v1, v2, v3, v4, .int 1])), (a, .inr (4, [w0, w1, .int 0]))] t.heap ∧ va_K (dC, dI) vwCl [] t ∧ va_D (va_A [(h0, .inr (15, [.ref a, v1, v2, v3, v4, .int th])), (a, .inr (4, [w0, w1, .int 0]))] sz) [(h0, .inr (15, [.ref a, v1, v2, v3, v4, .int 1])), (a, .inr (4, [w0, w1, .int 0]))]) (va_A [(h0, .inr (15, [.ref a, v1, v2, v3, v4, .int th])), (a, .inr (4, [w0, w1, .int 0]))] sz)) 0 0 (va_A [(h0, .inr (15, [.ref a, v1, v2, v3, v4, .int th])), (a, .inr (4, [w0, w1, .int 0]))] sz) := by
  refine Met.ofW (cc := cX10_addMass) (maxL := 5) (ret := (some .int)) (by decide) rfl ?_
  intro p e s m args below meth c s₁ B hml hv
  obtain ⟨rfl, hsz, hP, hK, hD0⟩ := hv
  have hx := B.exec
  have hb := B.bytes
  have hr := B.returns
  have hts0 := atoms_spec (ws := (pw_ws yX10_addMass cX10_addMass 5 (some .int))) B.pre
  have hts : ∀ w ∈ pw_all, w.before _ s = true := fun w h => hts0 w (List.mem_cons_of_mem _ h)
  have hown : s.vm.findClass RX10 = some m.cls := findClass_of_methodNamed B.named
  have hlocks := B.notSynchronized
  subst hsz
  have hD := hD0.self (sz := s.heap.size)
  generalize hAe : va_A [(h0, .inr (15, [.ref a, v1, v2, v3, v4, .int th])), (a, .inr (4, [w0, w1, .int 0]))] s.heap.size = A at hD ⊢
  have hA : ∀ q : Nat, s.heap.size ≤ q → A q := fun q h => by rw [← hAe]; exact Or.inr h
  have hS : va_S A s.heap s.heap [] := va_S.rf
  have hP : va_P (dC, dI) vwCl [(h0, .inr (15, [.ref a, v1, v2, v3, v4, .int th])), (a, .inr (4, [w0, w1, .int 0]))] s.heap := hP
  have hl := lv_entry ([.ref h0, .int p0, .int p1, .int p2, .int p3]) (n := 5) (Nat.le_of_ble_eq_true rfl)
  rw [lg_entry_eq]
  generalize (lg_sl ([.ref h0, .int p0, .int p1, .int p2, .int p3]) ++ List.replicate (5 - (lg_sl ([.ref h0, .int p0, .int p1, .int p2, .int p3])).length) Slot.unset).toArray = ls at hl ⊢
  have hl : lv_has ls 5 [(0, .ref h0), (1, .int p0), (2, .int p1), (3, .int p2), (4, .int p3)] := hl
  skip
  refine lv_aload_n hx hb dX10_addMass_0 rfl (lv_at hl 0 rfl) ?_
  refine lv_aload_n hx hb dX10_addMass_1 rfl (lv_at hl 0 rfl) ?_
  refine lv_iload_n hx hb dX10_addMass_2 rfl (lv_at hl 1 rfl) ?_
  have hPc := hP.sub (ws' := [(h0, .inr (15, [.ref a, v1, v2, v3, v4, .int th])), (a, .inr (4, [w0, w1, .int 0]))]) [0, 1] rfl
  have hDc := hD.sub (ws' := [(h0, .inr (15, [.ref a, v1, v2, v3, v4, .int th])), (a, .inr (4, [w0, w1, .int 0]))]) [0, 1] (by decide) rfl
  have hKc := hK.sub (tys' := []) [] rfl
  have hFc := va_free (wc := [(h0, .inr (15, [.ref a, v1, v2, v3, v4, .int th])), (a, .inr (4, [w0, w1, .int 0]))]) hD hS hA [0, 1] rfl
  refine va_calli (va_runV (As := [.int p0]) (rest := [.ref h0]) ⟨hx, hb, hml, hown, hts⟩ (n_isNoStructure l dC dI s.heap.size h0 a v1 v2 v3 v4 (.int th) w0 w1 p0) (cwV 1 hts (pw_V q1295 q1297 q20 q49 q1298) rfl rfl rfl (by decide +kernel) ⟨(Nat.le_of_ble_eq_true rfl), (Nat.le_of_ble_eq_true rfl)⟩) ⟨fun a U g mk q => by obtain ⟨q0, q1, qP, qK, qD⟩ := q; exact ⟨q0, q1, qP, va_K.moved (u := U) (U := U.calling g mk a) (Vm.Alike.refl U.vm) qK, qD⟩, va_recv hKc hPc (ci := 15) (q0 := 0) rfl rfl, fun U hU hW => ⟨rfl, by rw [hU], by rw [hU]; exact hPc, va_K.moved hW.alike hKc, hDc.weaken (fun _ _ _ _ => trivial)⟩⟩ rfl rfl hl.1 rfl (lv_room (Nat.le_of_ble_eq_true rfl)) dX10_addMass_3 ⟨(Nat.le_of_ble_eq_true rfl), (Nat.le_of_ble_eq_true rfl)⟩) hS (fun q _ h => hFc q h) hFc (fun r_259 u t H1 locs ht hvm hw hB hz1 hk1 hS => ?_)
  obtain ⟨hP1, hK1, hD1⟩ := hB
  rw [ht] at hP1
  have hK1 := va_K.moved hvm.symm hK1
  obtain ⟨hP, hD⟩ := va_join (wr := []) (w1 := [(h0, .inr (15, [.ref a, v1, v2, v3, v4, .int th])), (a, .inr (4, [w0, w1, .int 0]))]) hP hD [0, 1] [] rfl rfl (by decide) (by decide) hk1 hFc hP1 hD1
  have hK := (hK.sub (tys' := []) [] rfl).app hK1
  generalize H1 = H at hP hS ⊢
  have hP : va_P (dC, dI) vwCl [(h0, .inr (15, [.ref a, v1, v2, v3, v4, .int th])), (a, .inr (4, [w0, w1, .int 0]))] H := hP
  have hD : va_D A [(h0, .inr (15, [.ref a, v1, v2, v3, v4, .int th])), (a, .inr (4, [w0, w1, .int 0]))] := hD
  have hK : va_K (dC, dI) vwCl [] s := hK
  refine W.widen (k := 0) (n := 0) (Nat.le_of_ble_eq_true rfl) (Nat.le_of_ble_eq_true rfl) ?_
  have hw : r_259 = 1 := hw
  subst hw
  refine lv_iconst (v := 1) hx hb dX10_addMass_6 (by decide) ?_
  have hPc := hP.sub (ws' := [(h0, .inr (15, [.ref a, v1, v2, v3, v4, .int th]))]) [0] rfl
  have hDc := hD.sub (ws' := [(h0, .inr (15, [.ref a, v1, v2, v3, v4, .int th]))]) [0] (by decide) rfl
  have hKc := hK.sub (tys' := []) [] rfl
  have hFc := va_free (wc := [(h0, .inr (15, [.ref a, v1, v2, v3, v4, .int th]))]) hD hS hA [0] rfl
  refine va_calli (va_runV (As := [.int 1, .int 1]) (rest := []) ⟨hx, hb, hml, hown, hts⟩ (n_isThrown1 l dC dI H.size h0 (.ref a) v1 v2 v3 v4 th 1) (cwV 2 hts (pw_V q1253 q1255 q19 q49 q1256) rfl rfl rfl (by decide +kernel) ⟨(Nat.le_of_ble_eq_true rfl), (Nat.le_of_ble_eq_true rfl)⟩) ⟨fun a U g mk q => by obtain ⟨q0, q1, qP, qK, qD⟩ := q; exact ⟨q0, q1, qP, va_K.moved (u := U) (U := U.calling g mk a) (Vm.Alike.refl U.vm) qK, qD⟩, va_recv hKc hPc (ci := 15) (q0 := 0) rfl rfl, fun U hU hW => ⟨rfl, by rw [hU], by rw [hU]; exact hPc, va_K.moved hW.alike hKc, hDc.weaken (fun _ _ _ _ => trivial)⟩⟩ rfl rfl hl.1 rfl (lv_room (Nat.le_of_ble_eq_true rfl)) dX10_addMass_7 ⟨(Nat.le_of_ble_eq_true rfl), (Nat.le_of_ble_eq_true rfl)⟩) hS (fun q _ h => hFc q h) hFc (fun r_260 u t H1 locs ht hvm hw hB hz1 hk1 hS => ?_)
  obtain ⟨hP1, hK1, hD1⟩ := hB
  rw [ht] at hP1
  have hK1 := va_K.moved hvm.symm hK1
  obtain ⟨hP, hD⟩ := va_join (wr := [(a, .inr (4, [w0, w1, .int 0]))]) (w1 := [(h0, .inr (15, [.ref a, v1, v2, v3, v4, .int 1]))]) hP hD [0] [1] rfl rfl (by decide) (by decide) hk1 hFc hP1 hD1
  have hK := (hK.sub (tys' := []) [] rfl).app hK1
  generalize H1 = H at hP hS ⊢
  have hP : va_P (dC, dI) vwCl [(a, .inr (4, [w0, w1, .int 0])), (h0, .inr (15, [.ref a, v1, v2, v3, v4, .int 1]))] H := hP
  have hD : va_D A [(a, .inr (4, [w0, w1, .int 0])), (h0, .inr (15, [.ref a, v1, v2, v3, v4, .int 1]))] := hD
  have hK : va_K (dC, dI) vwCl [] s := hK
  refine W.widen (k := 0) (n := 0) (Nat.le_of_ble_eq_true rfl) (Nat.le_of_ble_eq_true rfl) ?_
  have hw : r_260 = 1 := hw
  subst hw
  refine lv_if_ne (tgt := 92) hx hb dX10_addMass_10 (by decide) (fun c_261 => ?_) (fun c_261 => absurd c_261 (by decide))
  refine lv_iconst (v := 0) hx hb dX10_addMass_92 (by decide) ?_
  have hP9 := hP.sub (ws' := [(h0, .inr (15, [.ref a, v1, v2, v3, v4, .int 1])), (a, .inr (4, [w0, w1, .int 0]))]) [1, 0] rfl
  have hD9 := hD.sub (ws' := [(h0, .inr (15, [.ref a, v1, v2, v3, v4, .int 1])), (a, .inr (4, [w0, w1, .int 0]))]) [1, 0] (by decide) rfl
  have hK9 := hK.sub (tys' := []) [] rfl
  refine W.widen (k := 0) (n := 0) (Nat.le_of_ble_eq_true rfl) (Nat.le_of_ble_eq_true rfl) ?_
  exact W.iret (v := 0) hx hb hr (fun t ht hW => ⟨⟨0, (), rfl, rfl, ⟨by rw [ht]; exact hP9, va_K.moved hW.alike hK9, hD9⟩⟩, hS.F ht⟩) hS.2.2 dX10_addMass_93
set_option maxHeartbeats 4000000 in
set_option maxRecDepth 100000 in
theorem y_crack (l : Launch) (dC : Nat → ClassId) (dI : Nat → Nat → Nat) (sz : Nat) (h0 : Nat) (a : Nat) (v1 : Value) (v2 : Value) (v3 : Value) (v4 : Value) (w0 : Value) (w1 : Value) (th : Int32) (p0 : Int32) (p1 : Int32) : Met l yX10_crack (pw_ws yX10_crack cX10_crack 3 (some .int)) ({ frames := 4, cells := 0, slots := 0, locals := 85 } : Room) (va_Pc [.ref h0, .int p0, .int p1] (fun U => U.heap.size = sz ∧ va_P (dC, dI) vwCl [(h0, .inr (15, [.ref a, v1, v2, v3, v4, .int th])), (a, .inr (4, [w0, w1, .int 0]))] U.heap ∧ va_K (dC, dI) vwCl [] U ∧ va_D (fun _ => True) [(h0, .inr (15, [.ref a, v1, v2, v3, v4, .int th])), (a, .inr (4, [w0, w1, .int 0]))])) (va_Qi (fun (r : Int32) (_ : Unit) => r = 0) (fun (_ : Unit) (t : State) => va_P (dC, dI) vwCl [(h0, .inr (15, [.ref a, v1, v2, v3, v4, .int 1])), (a, .inr (4, [w0, w1, .int 0]))] t.heap ∧ va_K (dC, dI) vwCl [] t ∧ va_D (va_A [(h0, .inr (15, [.ref a, v1, v2, v3, v4, .int th])), (a, .inr (4, [w0, w1, .int 0]))] sz) [(h0, .inr (15, [.ref a, v1, v2, v3, v4, .int 1])), (a, .inr (4, [w0, w1, .int 0]))]) (va_A [(h0, .inr (15, [.ref a, v1, v2, v3, v4, .int th])), (a, .inr (4, [w0, w1, .int 0]))] sz)) 0 0 (va_A [(h0, .inr (15, [.ref a, v1, v2, v3, v4, .int th])), (a, .inr (4, [w0, w1, .int 0]))] sz) := by
  refine Met.ofW (cc := cX10_crack) (maxL := 3) (ret := (some .int)) (by decide) rfl ?_
  intro p e s m args below meth c s₁ B hml hv
  obtain ⟨rfl, hsz, hP, hK, hD0⟩ := hv
  have hx := B.exec
  have hb := B.bytes
  have hr := B.returns
  have hts0 := atoms_spec (ws := (pw_ws yX10_crack cX10_crack 3 (some .int))) B.pre
  have hts : ∀ w ∈ pw_all, w.before _ s = true := fun w h => hts0 w (List.mem_cons_of_mem _ h)
  have hown : s.vm.findClass RX10 = some m.cls := findClass_of_methodNamed B.named
  have hlocks := B.notSynchronized
  subst hsz
  have hD := hD0.self (sz := s.heap.size)
  generalize hAe : va_A [(h0, .inr (15, [.ref a, v1, v2, v3, v4, .int th])), (a, .inr (4, [w0, w1, .int 0]))] s.heap.size = A at hD ⊢
  have hA : ∀ q : Nat, s.heap.size ≤ q → A q := fun q h => by rw [← hAe]; exact Or.inr h
  have hS : va_S A s.heap s.heap [] := va_S.rf
  have hP : va_P (dC, dI) vwCl [(h0, .inr (15, [.ref a, v1, v2, v3, v4, .int th])), (a, .inr (4, [w0, w1, .int 0]))] s.heap := hP
  have hl := lv_entry ([.ref h0, .int p0, .int p1]) (n := 3) (Nat.le_of_ble_eq_true rfl)
  rw [lg_entry_eq]
  generalize (lg_sl ([.ref h0, .int p0, .int p1]) ++ List.replicate (3 - (lg_sl ([.ref h0, .int p0, .int p1])).length) Slot.unset).toArray = ls at hl ⊢
  have hl : lv_has ls 3 [(0, .ref h0), (1, .int p0), (2, .int p1)] := hl
  skip
  refine lv_aload_n hx hb dX10_crack_0 rfl (lv_at hl 0 rfl) ?_
  refine lv_aload_n hx hb dX10_crack_1 rfl (lv_at hl 0 rfl) ?_
  refine lv_iload_n hx hb dX10_crack_2 rfl (lv_at hl 1 rfl) ?_
  refine lv_iload_n hx hb dX10_crack_3 rfl (lv_at hl 2 rfl) ?_
  have hPc := hP.sub (ws' := [(h0, .inr (15, [.ref a, v1, v2, v3, v4, .int th])), (a, .inr (4, [w0, w1, .int 0]))]) [0, 1] rfl
  have hDc := hD.sub (ws' := [(h0, .inr (15, [.ref a, v1, v2, v3, v4, .int th])), (a, .inr (4, [w0, w1, .int 0]))]) [0, 1] (by decide) rfl
  have hKc := hK.sub (tys' := []) [] rfl
  have hFc := va_free (wc := [(h0, .inr (15, [.ref a, v1, v2, v3, v4, .int th])), (a, .inr (4, [w0, w1, .int 0]))]) hD hS hA [0, 1] rfl
  refine va_calli (va_runV (As := [.int p0, .int p1]) (rest := [.ref h0]) ⟨hx, hb, hml, hown, hts⟩ (n_isNoMass l dC dI s.heap.size h0 a v1 v2 v3 v4 (.int th) w0 w1 p0 p1) (cwV 2 hts (pw_V q1307 q1309 q21 q49 q1310) rfl rfl rfl (by decide +kernel) ⟨(Nat.le_of_ble_eq_true rfl), (Nat.le_of_ble_eq_true rfl)⟩) ⟨fun a U g mk q => by obtain ⟨q0, q1, qP, qK, qD⟩ := q; exact ⟨q0, q1, qP, va_K.moved (u := U) (U := U.calling g mk a) (Vm.Alike.refl U.vm) qK, qD⟩, va_recv hKc hPc (ci := 15) (q0 := 0) rfl rfl, fun U hU hW => ⟨rfl, by rw [hU], by rw [hU]; exact hPc, va_K.moved hW.alike hKc, hDc.weaken (fun _ _ _ _ => trivial)⟩⟩ rfl rfl hl.1 rfl (lv_room (Nat.le_of_ble_eq_true rfl)) dX10_crack_4 ⟨(Nat.le_of_ble_eq_true rfl), (Nat.le_of_ble_eq_true rfl)⟩) hS (fun q _ h => hFc q h) hFc (fun r_262 u t H1 locs ht hvm hw hB hz1 hk1 hS => ?_)
  obtain ⟨hP1, hK1, hD1⟩ := hB
  rw [ht] at hP1
  have hK1 := va_K.moved hvm.symm hK1
  obtain ⟨hP, hD⟩ := va_join (wr := []) (w1 := [(h0, .inr (15, [.ref a, v1, v2, v3, v4, .int th])), (a, .inr (4, [w0, w1, .int 0]))]) hP hD [0, 1] [] rfl rfl (by decide) (by decide) hk1 hFc hP1 hD1
  have hK := (hK.sub (tys' := []) [] rfl).app hK1
  generalize H1 = H at hP hS ⊢
  have hP : va_P (dC, dI) vwCl [(h0, .inr (15, [.ref a, v1, v2, v3, v4, .int th])), (a, .inr (4, [w0, w1, .int 0]))] H := hP
  have hD : va_D A [(h0, .inr (15, [.ref a, v1, v2, v3, v4, .int th])), (a, .inr (4, [w0, w1, .int 0]))] := hD
  have hK : va_K (dC, dI) vwCl [] s := hK
  refine W.widen (k := 0) (n := 0) (Nat.le_of_ble_eq_true rfl) (Nat.le_of_ble_eq_true rfl) ?_
  have hw : r_262 = 1 := hw
  subst hw
  refine lv_iconst (v := 1) hx hb dX10_crack_7 (by decide) ?_
  have hPc := hP.sub (ws' := [(h0, .inr (15, [.ref a, v1, v2, v3, v4, .int th]))]) [0] rfl
  have hDc := hD.sub (ws' := [(h0, .inr (15, [.ref a, v1, v2, v3, v4, .int th]))]) [0] (by decide) rfl
  have hKc := hK.sub (tys' := []) [] rfl
  have hFc := va_free (wc := [(h0, .inr (15, [.ref a, v1, v2, v3, v4, .int th]))]) hD hS hA [0] rfl
  refine va_calli (va_runV (As := [.int 1, .int 1]) (rest := []) ⟨hx, hb, hml, hown, hts⟩ (n_isThrown1 l dC dI H.size h0 (.ref a) v1 v2 v3 v4 th 1) (cwV 2 hts (pw_V q1253 q1255 q19 q49 q1256) rfl rfl rfl (by decide +kernel) ⟨(Nat.le_of_ble_eq_true rfl), (Nat.le_of_ble_eq_true rfl)⟩) ⟨fun a U g mk q => by obtain ⟨q0, q1, qP, qK, qD⟩ := q; exact ⟨q0, q1, qP, va_K.moved (u := U) (U := U.calling g mk a) (Vm.Alike.refl U.vm) qK, qD⟩, va_recv hKc hPc (ci := 15) (q0 := 0) rfl rfl, fun U hU hW => ⟨rfl, by rw [hU], by rw [hU]; exact hPc, va_K.moved hW.alike hKc, hDc.weaken (fun _ _ _ _ => trivial)⟩⟩ rfl rfl hl.1 rfl (lv_room (Nat.le_of_ble_eq_true rfl)) dX10_crack_8 ⟨(Nat.le_of_ble_eq_true rfl), (Nat.le_of_ble_eq_true rfl)⟩) hS (fun q _ h => hFc q h) hFc (fun r_263 u t H1 locs ht hvm hw hB hz1 hk1 hS => ?_)
  obtain ⟨hP1, hK1, hD1⟩ := hB
  rw [ht] at hP1
  have hK1 := va_K.moved hvm.symm hK1
  obtain ⟨hP, hD⟩ := va_join (wr := [(a, .inr (4, [w0, w1, .int 0]))]) (w1 := [(h0, .inr (15, [.ref a, v1, v2, v3, v4, .int 1]))]) hP hD [0] [1] rfl rfl (by decide) (by decide) hk1 hFc hP1 hD1
  have hK := (hK.sub (tys' := []) [] rfl).app hK1
  generalize H1 = H at hP hS ⊢
  have hP : va_P (dC, dI) vwCl [(a, .inr (4, [w0, w1, .int 0])), (h0, .inr (15, [.ref a, v1, v2, v3, v4, .int 1]))] H := hP
  have hD : va_D A [(a, .inr (4, [w0, w1, .int 0])), (h0, .inr (15, [.ref a, v1, v2, v3, v4, .int 1]))] := hD
  have hK : va_K (dC, dI) vwCl [] s := hK
  refine W.widen (k := 0) (n := 0) (Nat.le_of_ble_eq_true rfl) (Nat.le_of_ble_eq_true rfl) ?_
  have hw : r_263 = 1 := hw
  subst hw
  refine lv_if_ne (tgt := 55) hx hb dX10_crack_11 (by decide) (fun c_264 => ?_) (fun c_264 => absurd c_264 (by decide))
  refine lv_iconst (v := 0) hx hb dX10_crack_55 (by decide) ?_
  have hP9 := hP.sub (ws' := [(h0, .inr (15, [.ref a, v1, v2, v3, v4, .int 1])), (a, .inr (4, [w0, w1, .int 0]))]) [1, 0] rfl
  have hD9 := hD.sub (ws' := [(h0, .inr (15, [.ref a, v1, v2, v3, v4, .int 1])), (a, .inr (4, [w0, w1, .int 0]))]) [1, 0] (by decide) rfl
  have hK9 := hK.sub (tys' := []) [] rfl
  refine W.widen (k := 0) (n := 0) (Nat.le_of_ble_eq_true rfl) (Nat.le_of_ble_eq_true rfl) ?_
  exact W.iret (v := 0) hx hb hr (fun t ht hW => ⟨⟨0, (), rfl, rfl, ⟨by rw [ht]; exact hP9, va_K.moved hW.alike hK9, hD9⟩⟩, hS.F ht⟩) hS.2.2 dX10_crack_56
set_option maxHeartbeats 4000000 in
set_option maxRecDepth 100000 in
theorem y_getSpring (l : Launch) (dC : Nat → ClassId) (dI : Nat → Nat → Nat) (sz : Nat) (h0 : Nat) (a : Nat) (v1 : Value) (v2 : Value) (v3 : Value) (v4 : Value) (w0 : Value) (w1 : Value) (th : Int32) (p0 : Int32) (p1 : Int32) : Met l yX10_getSpring (pw_ws yX10_getSpring cX10_getSpring 3 (some .int)) ({ frames := 4, cells := 0, slots := 0, locals := 85 } : Room) (va_Pc [.ref h0, .int p0, .int p1] (fun U => U.heap.size = sz ∧ va_P (dC, dI) vwCl [(h0, .inr (15, [.ref a, v1, v2, v3, v4, .int th])), (a, .inr (4, [w0, w1, .int 0]))] U.heap ∧ va_K (dC, dI) vwCl [] U ∧ va_D (fun _ => True) [(h0, .inr (15, [.ref a, v1, v2, v3, v4, .int th])), (a, .inr (4, [w0, w1, .int 0]))])) (va_Qi (fun (r : Int32) (_ : Unit) => r = 0) (fun (_ : Unit) (t : State) => va_P (dC, dI) vwCl [(h0, .inr (15, [.ref a, v1, v2, v3, v4, .int 1])), (a, .inr (4, [w0, w1, .int 0]))] t.heap ∧ va_K (dC, dI) vwCl [] t ∧ va_D (va_A [(h0, .inr (15, [.ref a, v1, v2, v3, v4, .int th])), (a, .inr (4, [w0, w1, .int 0]))] sz) [(h0, .inr (15, [.ref a, v1, v2, v3, v4, .int 1])), (a, .inr (4, [w0, w1, .int 0]))]) (va_A [(h0, .inr (15, [.ref a, v1, v2, v3, v4, .int th])), (a, .inr (4, [w0, w1, .int 0]))] sz)) 0 0 (va_A [(h0, .inr (15, [.ref a, v1, v2, v3, v4, .int th])), (a, .inr (4, [w0, w1, .int 0]))] sz) := by
  refine Met.ofW (cc := cX10_getSpring) (maxL := 3) (ret := (some .int)) (by decide) rfl ?_
  intro p e s m args below meth c s₁ B hml hv
  obtain ⟨rfl, hsz, hP, hK, hD0⟩ := hv
  have hx := B.exec
  have hb := B.bytes
  have hr := B.returns
  have hts0 := atoms_spec (ws := (pw_ws yX10_getSpring cX10_getSpring 3 (some .int))) B.pre
  have hts : ∀ w ∈ pw_all, w.before _ s = true := fun w h => hts0 w (List.mem_cons_of_mem _ h)
  have hown : s.vm.findClass RX10 = some m.cls := findClass_of_methodNamed B.named
  have hlocks := B.notSynchronized
  subst hsz
  have hD := hD0.self (sz := s.heap.size)
  generalize hAe : va_A [(h0, .inr (15, [.ref a, v1, v2, v3, v4, .int th])), (a, .inr (4, [w0, w1, .int 0]))] s.heap.size = A at hD ⊢
  have hA : ∀ q : Nat, s.heap.size ≤ q → A q := fun q h => by rw [← hAe]; exact Or.inr h
  have hS : va_S A s.heap s.heap [] := va_S.rf
  have hP : va_P (dC, dI) vwCl [(h0, .inr (15, [.ref a, v1, v2, v3, v4, .int th])), (a, .inr (4, [w0, w1, .int 0]))] s.heap := hP
  have hl := lv_entry ([.ref h0, .int p0, .int p1]) (n := 3) (Nat.le_of_ble_eq_true rfl)
  rw [lg_entry_eq]
  generalize (lg_sl ([.ref h0, .int p0, .int p1]) ++ List.replicate (3 - (lg_sl ([.ref h0, .int p0, .int p1])).length) Slot.unset).toArray = ls at hl ⊢
  have hl : lv_has ls 3 [(0, .ref h0), (1, .int p0), (2, .int p1)] := hl
  skip
  refine lv_aload_n hx hb dX10_getSpring_0 rfl (lv_at hl 0 rfl) ?_
  refine lv_aload_n hx hb dX10_getSpring_1 rfl (lv_at hl 0 rfl) ?_
  refine lv_iload_n hx hb dX10_getSpring_2 rfl (lv_at hl 1 rfl) ?_
  refine lv_iload_n hx hb dX10_getSpring_3 rfl (lv_at hl 2 rfl) ?_
  have hPc := hP.sub (ws' := [(h0, .inr (15, [.ref a, v1, v2, v3, v4, .int th])), (a, .inr (4, [w0, w1, .int 0]))]) [0, 1] rfl
  have hDc := hD.sub (ws' := [(h0, .inr (15, [.ref a, v1, v2, v3, v4, .int th])), (a, .inr (4, [w0, w1, .int 0]))]) [0, 1] (by decide) rfl
  have hKc := hK.sub (tys' := []) [] rfl
  have hFc := va_free (wc := [(h0, .inr (15, [.ref a, v1, v2, v3, v4, .int th])), (a, .inr (4, [w0, w1, .int 0]))]) hD hS hA [0, 1] rfl
  refine va_calli (va_runV (As := [.int p0, .int p1]) (rest := [.ref h0]) ⟨hx, hb, hml, hown, hts⟩ (n_isNoMass l dC dI s.heap.size h0 a v1 v2 v3 v4 (.int th) w0 w1 p0 p1) (cwV 2 hts (pw_V q1307 q1309 q21 q49 q1310) rfl rfl rfl (by decide +kernel) ⟨(Nat.le_of_ble_eq_true rfl), (Nat.le_of_ble_eq_true rfl)⟩) ⟨fun a U g mk q => by obtain ⟨q0, q1, qP, qK, qD⟩ := q; exact ⟨q0, q1, qP, va_K.moved (u := U) (U := U.calling g mk a) (Vm.Alike.refl U.vm) qK, qD⟩, va_recv hKc hPc (ci := 15) (q0 := 0) rfl rfl, fun U hU hW => ⟨rfl, by rw [hU], by rw [hU]; exact hPc, va_K.moved hW.alike hKc, hDc.weaken (fun _ _ _ _ => trivial)⟩⟩ rfl rfl hl.1 rfl (lv_room (Nat.le_of_ble_eq_true rfl)) dX10_getSpring_4 ⟨(Nat.le_of_ble_eq_true rfl), (Nat.le_of_ble_eq_true rfl)⟩) hS (fun q _ h => hFc q h) hFc (fun r_265 u t H1 locs ht hvm hw hB hz1 hk1 hS => ?_)
  obtain ⟨hP1, hK1, hD1⟩ := hB
  rw [ht] at hP1
  have hK1 := va_K.moved hvm.symm hK1
  obtain ⟨hP, hD⟩ := va_join (wr := []) (w1 := [(h0, .inr (15, [.ref a, v1, v2, v3, v4, .int th])), (a, .inr (4, [w0, w1, .int 0]))]) hP hD [0, 1] [] rfl rfl (by decide) (by decide) hk1 hFc hP1 hD1
  have hK := (hK.sub (tys' := []) [] rfl).app hK1
  generalize H1 = H at hP hS ⊢
  have hP : va_P (dC, dI) vwCl [(h0, .inr (15, [.ref a, v1, v2, v3, v4, .int th])), (a, .inr (4, [w0, w1, .int 0]))] H := hP
  have hD : va_D A [(h0, .inr (15, [.ref a, v1, v2, v3, v4, .int th])), (a, .inr (4, [w0, w1, .int 0]))] := hD
  have hK : va_K (dC, dI) vwCl [] s := hK
  refine W.widen (k := 0) (n := 0) (Nat.le_of_ble_eq_true rfl) (Nat.le_of_ble_eq_true rfl) ?_
  have hw : r_265 = 1 := hw
  subst hw
  refine lv_iconst (v := 1) hx hb dX10_getSpring_7 (by decide) ?_
  have hPc := hP.sub (ws' := [(h0, .inr (15, [.ref a, v1, v2, v3, v4, .int th]))]) [0] rfl
  have hDc := hD.sub (ws' := [(h0, .inr (15, [.ref a, v1, v2, v3, v4, .int th]))]) [0] (by decide) rfl
  have hKc := hK.sub (tys' := []) [] rfl
  have hFc := va_free (wc := [(h0, .inr (15, [.ref a, v1, v2, v3, v4, .int th]))]) hD hS hA [0] rfl
  refine va_calli (va_runV (As := [.int 1, .int 1]) (rest := []) ⟨hx, hb, hml, hown, hts⟩ (n_isThrown1 l dC dI H.size h0 (.ref a) v1 v2 v3 v4 th 1) (cwV 2 hts (pw_V q1253 q1255 q19 q49 q1256) rfl rfl rfl (by decide +kernel) ⟨(Nat.le_of_ble_eq_true rfl), (Nat.le_of_ble_eq_true rfl)⟩) ⟨fun a U g mk q => by obtain ⟨q0, q1, qP, qK, qD⟩ := q; exact ⟨q0, q1, qP, va_K.moved (u := U) (U := U.calling g mk a) (Vm.Alike.refl U.vm) qK, qD⟩, va_recv hKc hPc (ci := 15) (q0 := 0) rfl rfl, fun U hU hW => ⟨rfl, by rw [hU], by rw [hU]; exact hPc, va_K.moved hW.alike hKc, hDc.weaken (fun _ _ _ _ => trivial)⟩⟩ rfl rfl hl.1 rfl (lv_room (Nat.le_of_ble_eq_true rfl)) dX10_getSpring_8 ⟨(Nat.le_of_ble_eq_true rfl), (Nat.le_of_ble_eq_true rfl)⟩) hS (fun q _ h => hFc q h) hFc (fun r_266 u t H1 locs ht hvm hw hB hz1 hk1 hS => ?_)
  obtain ⟨hP1, hK1, hD1⟩ := hB
  rw [ht] at hP1
  have hK1 := va_K.moved hvm.symm hK1
  obtain ⟨hP, hD⟩ := va_join (wr := [(a, .inr (4, [w0, w1, .int 0]))]) (w1 := [(h0, .inr (15, [.ref a, v1, v2, v3, v4, .int 1]))]) hP hD [0] [1] rfl rfl (by decide) (by decide) hk1 hFc hP1 hD1
  have hK := (hK.sub (tys' := []) [] rfl).app hK1
  generalize H1 = H at hP hS ⊢
  have hP : va_P (dC, dI) vwCl [(a, .inr (4, [w0, w1, .int 0])), (h0, .inr (15, [.ref a, v1, v2, v3, v4, .int 1]))] H := hP
  have hD : va_D A [(a, .inr (4, [w0, w1, .int 0])), (h0, .inr (15, [.ref a, v1, v2, v3, v4, .int 1]))] := hD
  have hK : va_K (dC, dI) vwCl [] s := hK
  refine W.widen (k := 0) (n := 0) (Nat.le_of_ble_eq_true rfl) (Nat.le_of_ble_eq_true rfl) ?_
  have hw : r_266 = 1 := hw
  subst hw
  refine lv_if_eq (tgt := 18) hx hb dX10_getSpring_11 (by decide) (fun c_267 => absurd c_267 (by decide)) (fun c_267 => ?_)
  refine lv_iconst (v := 0) hx hb dX10_getSpring_14 (by decide) ?_
  refine lv_goto (tgt := 33) hx hb dX10_getSpring_15 (by decide) ?_
  have hP9 := hP.sub (ws' := [(h0, .inr (15, [.ref a, v1, v2, v3, v4, .int 1])), (a, .inr (4, [w0, w1, .int 0]))]) [1, 0] rfl
  have hD9 := hD.sub (ws' := [(h0, .inr (15, [.ref a, v1, v2, v3, v4, .int 1])), (a, .inr (4, [w0, w1, .int 0]))]) [1, 0] (by decide) rfl
  have hK9 := hK.sub (tys' := []) [] rfl
  refine W.widen (k := 0) (n := 0) (Nat.le_of_ble_eq_true rfl) (Nat.le_of_ble_eq_true rfl) ?_
  exact W.iret (v := 0) hx hb hr (fun t ht hW => ⟨⟨0, (), rfl, rfl, ⟨by rw [ht]; exact hP9, va_K.moved hW.alike hK9, hD9⟩⟩, hS.F ht⟩) hS.2.2 dX10_getSpring_33
set_option maxHeartbeats 4000000 in
set_option maxRecDepth 100000 in
theorem y_getResponse (l : Launch) (dC : Nat → ClassId) (dI : Nat → Nat → Nat) (sz : Nat) (h0 : Nat) (a : Nat) (v1 : Value) (v2 : Value) (v3 : Value) (v4 : Value) (w0 : Value) (w1 : Value) (th : Int32) (p0 : Int32) (p1 : Int32) (p2 : Int32) : Met l yX10_getResponse (pw_ws yX10_getResponse cX10_getResponse 4 (some .int)) ({ frames := 4, cells := 0, slots := 0, locals := 85 } : Room) (va_Pc [.ref h0, .int p0, .int p1, .int p2] (fun U => U.heap.size = sz ∧ va_P (dC, dI) vwCl [(h0, .inr (15, [.ref a, v1, v2, v3, v4, .int th])), (a, .inr (4, [w0, w1, .int 0]))] U.heap ∧ va_K (dC, dI) vwCl [] U ∧ va_D (fun _ => True) [(h0, .inr (15, [.ref a, v1, v2, v3, v4, .int th])), (a, .inr (4, [w0, w1, .int 0]))])) (va_Qi (fun (r : Int32) (_ : Unit) => r = 0) (fun (_ : Unit) (t : State) => va_P (dC, dI) vwCl [(h0, .inr (15, [.ref a, v1, v2, v3, v4, .int 1])), (a, .inr (4, [w0, w1, .int 0]))] t.heap ∧ va_K (dC, dI) vwCl [] t ∧ va_D (va_A [(h0, .inr (15, [.ref a, v1, v2, v3, v4, .int th])), (a, .inr (4, [w0, w1, .int 0]))] sz) [(h0, .inr (15, [.ref a, v1, v2, v3, v4, .int 1])), (a, .inr (4, [w0, w1, .int 0]))]) (va_A [(h0, .inr (15, [.ref a, v1, v2, v3, v4, .int th])), (a, .inr (4, [w0, w1, .int 0]))] sz)) 0 0 (va_A [(h0, .inr (15, [.ref a, v1, v2, v3, v4, .int th])), (a, .inr (4, [w0, w1, .int 0]))] sz) := by
  refine Met.ofW (cc := cX10_getResponse) (maxL := 4) (ret := (some .int)) (by decide) rfl ?_
  intro p e s m args below meth c s₁ B hml hv
  obtain ⟨rfl, hsz, hP, hK, hD0⟩ := hv
  have hx := B.exec
  have hb := B.bytes
  have hr := B.returns
  have hts0 := atoms_spec (ws := (pw_ws yX10_getResponse cX10_getResponse 4 (some .int))) B.pre
  have hts : ∀ w ∈ pw_all, w.before _ s = true := fun w h => hts0 w (List.mem_cons_of_mem _ h)
  have hown : s.vm.findClass RX10 = some m.cls := findClass_of_methodNamed B.named
  have hlocks := B.notSynchronized
  subst hsz
  have hD := hD0.self (sz := s.heap.size)
  generalize hAe : va_A [(h0, .inr (15, [.ref a, v1, v2, v3, v4, .int th])), (a, .inr (4, [w0, w1, .int 0]))] s.heap.size = A at hD ⊢
  have hA : ∀ q : Nat, s.heap.size ≤ q → A q := fun q h => by rw [← hAe]; exact Or.inr h
  have hS : va_S A s.heap s.heap [] := va_S.rf
  have hP : va_P (dC, dI) vwCl [(h0, .inr (15, [.ref a, v1, v2, v3, v4, .int th])), (a, .inr (4, [w0, w1, .int 0]))] s.heap := hP
  have hl := lv_entry ([.ref h0, .int p0, .int p1, .int p2]) (n := 4) (Nat.le_of_ble_eq_true rfl)
  rw [lg_entry_eq]
  generalize (lg_sl ([.ref h0, .int p0, .int p1, .int p2]) ++ List.replicate (4 - (lg_sl ([.ref h0, .int p0, .int p1, .int p2])).length) Slot.unset).toArray = ls at hl ⊢
  have hl : lv_has ls 4 [(0, .ref h0), (1, .int p0), (2, .int p1), (3, .int p2)] := hl
  skip
  refine lv_aload_n hx hb dX10_getResponse_0 rfl (lv_at hl 0 rfl) ?_
  refine lv_aload_n hx hb dX10_getResponse_1 rfl (lv_at hl 0 rfl) ?_
  refine lv_iload_n hx hb dX10_getResponse_2 rfl (lv_at hl 1 rfl) ?_
  refine lv_iload_n hx hb dX10_getResponse_3 rfl (lv_at hl 2 rfl) ?_
  have hPc := hP.sub (ws' := [(h0, .inr (15, [.ref a, v1, v2, v3, v4, .int th])), (a, .inr (4, [w0, w1, .int 0]))]) [0, 1] rfl
  have hDc := hD.sub (ws' := [(h0, .inr (15, [.ref a, v1, v2, v3, v4, .int th])), (a, .inr (4, [w0, w1, .int 0]))]) [0, 1] (by decide) rfl
  have hKc := hK.sub (tys' := []) [] rfl
  have hFc := va_free (wc := [(h0, .inr (15, [.ref a, v1, v2, v3, v4, .int th])), (a, .inr (4, [w0, w1, .int 0]))]) hD hS hA [0, 1] rfl
  refine va_calli (va_runV (As := [.int p0, .int p1]) (rest := [.ref h0]) ⟨hx, hb, hml, hown, hts⟩ (n_isNoMass l dC dI s.heap.size h0 a v1 v2 v3 v4 (.int th) w0 w1 p0 p1) (cwV 2 hts (pw_V q1307 q1309 q21 q49 q1310) rfl rfl rfl (by decide +kernel) ⟨(Nat.le_of_ble_eq_true rfl), (Nat.le_of_ble_eq_true rfl)⟩) ⟨fun a U g mk q => by obtain ⟨q0, q1, qP, qK, qD⟩ := q; exact ⟨q0, q1, qP, va_K.moved (u := U) (U := U.calling g mk a) (Vm.Alike.refl U.vm) qK, qD⟩, va_recv hKc hPc (ci := 15) (q0 := 0) rfl rfl, fun U hU hW => ⟨rfl, by rw [hU], by rw [hU]; exact hPc, va_K.moved hW.alike hKc, hDc.weaken (fun _ _ _ _ => trivial)⟩⟩ rfl rfl hl.1 rfl (lv_room (Nat.le_of_ble_eq_true rfl)) dX10_getResponse_4 ⟨(Nat.le_of_ble_eq_true rfl), (Nat.le_of_ble_eq_true rfl)⟩) hS (fun q _ h => hFc q h) hFc (fun r_268 u t H1 locs ht hvm hw hB hz1 hk1 hS => ?_)
  obtain ⟨hP1, hK1, hD1⟩ := hB
  rw [ht] at hP1
  have hK1 := va_K.moved hvm.symm hK1
  obtain ⟨hP, hD⟩ := va_join (wr := []) (w1 := [(h0, .inr (15, [.ref a, v1, v2, v3, v4, .int th])), (a, .inr (4, [w0, w1, .int 0]))]) hP hD [0, 1] [] rfl rfl (by decide) (by decide) hk1 hFc hP1 hD1
  have hK := (hK.sub (tys' := []) [] rfl).app hK1
  generalize H1 = H at hP hS ⊢
  have hP : va_P (dC, dI) vwCl [(h0, .inr (15, [.ref a, v1, v2, v3, v4, .int th])), (a, .inr (4, [w0, w1, .int 0]))] H := hP
  have hD : va_D A [(h0, .inr (15, [.ref a, v1, v2, v3, v4, .int th])), (a, .inr (4, [w0, w1, .int 0]))] := hD
  have hK : va_K (dC, dI) vwCl [] s := hK
  refine W.widen (k := 0) (n := 0) (Nat.le_of_ble_eq_true rfl) (Nat.le_of_ble_eq_true rfl) ?_
  have hw : r_268 = 1 := hw
  subst hw
  refine lv_iconst (v := 1) hx hb dX10_getResponse_7 (by decide) ?_
  have hPc := hP.sub (ws' := [(h0, .inr (15, [.ref a, v1, v2, v3, v4, .int th]))]) [0] rfl
  have hDc := hD.sub (ws' := [(h0, .inr (15, [.ref a, v1, v2, v3, v4, .int th]))]) [0] (by decide) rfl
  have hKc := hK.sub (tys' := []) [] rfl
  have hFc := va_free (wc := [(h0, .inr (15, [.ref a, v1, v2, v3, v4, .int th]))]) hD hS hA [0] rfl
  refine va_calli (va_runV (As := [.int 1, .int 1]) (rest := []) ⟨hx, hb, hml, hown, hts⟩ (n_isThrown1 l dC dI H.size h0 (.ref a) v1 v2 v3 v4 th 1) (cwV 2 hts (pw_V q1253 q1255 q19 q49 q1256) rfl rfl rfl (by decide +kernel) ⟨(Nat.le_of_ble_eq_true rfl), (Nat.le_of_ble_eq_true rfl)⟩) ⟨fun a U g mk q => by obtain ⟨q0, q1, qP, qK, qD⟩ := q; exact ⟨q0, q1, qP, va_K.moved (u := U) (U := U.calling g mk a) (Vm.Alike.refl U.vm) qK, qD⟩, va_recv hKc hPc (ci := 15) (q0 := 0) rfl rfl, fun U hU hW => ⟨rfl, by rw [hU], by rw [hU]; exact hPc, va_K.moved hW.alike hKc, hDc.weaken (fun _ _ _ _ => trivial)⟩⟩ rfl rfl hl.1 rfl (lv_room (Nat.le_of_ble_eq_true rfl)) dX10_getResponse_8 ⟨(Nat.le_of_ble_eq_true rfl), (Nat.le_of_ble_eq_true rfl)⟩) hS (fun q _ h => hFc q h) hFc (fun r_269 u t H1 locs ht hvm hw hB hz1 hk1 hS => ?_)
  obtain ⟨hP1, hK1, hD1⟩ := hB
  rw [ht] at hP1
  have hK1 := va_K.moved hvm.symm hK1
  obtain ⟨hP, hD⟩ := va_join (wr := [(a, .inr (4, [w0, w1, .int 0]))]) (w1 := [(h0, .inr (15, [.ref a, v1, v2, v3, v4, .int 1]))]) hP hD [0] [1] rfl rfl (by decide) (by decide) hk1 hFc hP1 hD1
  have hK := (hK.sub (tys' := []) [] rfl).app hK1
  generalize H1 = H at hP hS ⊢
  have hP : va_P (dC, dI) vwCl [(a, .inr (4, [w0, w1, .int 0])), (h0, .inr (15, [.ref a, v1, v2, v3, v4, .int 1]))] H := hP
  have hD : va_D A [(a, .inr (4, [w0, w1, .int 0])), (h0, .inr (15, [.ref a, v1, v2, v3, v4, .int 1]))] := hD
  have hK : va_K (dC, dI) vwCl [] s := hK
  refine W.widen (k := 0) (n := 0) (Nat.le_of_ble_eq_true rfl) (Nat.le_of_ble_eq_true rfl) ?_
  have hw : r_269 = 1 := hw
  subst hw
  refine lv_if_ne (tgt := 37) hx hb dX10_getResponse_11 (by decide) (fun c_270 => ?_) (fun c_270 => absurd c_270 (by decide))
  refine lv_iconst (v := 0) hx hb dX10_getResponse_37 (by decide) ?_
  refine lv_goto (tgt := 48) hx hb dX10_getResponse_38 (by decide) ?_
  have hP9 := hP.sub (ws' := [(h0, .inr (15, [.ref a, v1, v2, v3, v4, .int 1])), (a, .inr (4, [w0, w1, .int 0]))]) [1, 0] rfl
  have hD9 := hD.sub (ws' := [(h0, .inr (15, [.ref a, v1, v2, v3, v4, .int 1])), (a, .inr (4, [w0, w1, .int 0]))]) [1, 0] (by decide) rfl
  have hK9 := hK.sub (tys' := []) [] rfl
  refine W.widen (k := 0) (n := 0) (Nat.le_of_ble_eq_true rfl) (Nat.le_of_ble_eq_true rfl) ?_
  exact W.iret (v := 0) hx hb hr (fun t ht hW => ⟨⟨0, (), rfl, rfl, ⟨by rw [ht]; exact hP9, va_K.moved hW.alike hK9, hD9⟩⟩, hS.F ht⟩) hS.2.2 dX10_getResponse_48
set_option maxHeartbeats 4000000 in
set_option maxRecDepth 100000 in
theorem y_getResonance (l : Launch) (dC : Nat → ClassId) (dI : Nat → Nat → Nat) (sz : Nat) (h0 : Nat) (a : Nat) (v1 : Value) (v2 : Value) (v3 : Value) (v4 : Value) (w0 : Value) (w1 : Value) (th : Int32) (p0 : Int32) : Met l yX10_getResonance (pw_ws yX10_getResonance cX10_getResonance 2 (some .int)) ({ frames := 3, cells := 0, slots := 0, locals := 63 } : Room) (va_Pc [.ref h0, .int p0] (fun U => U.heap.size = sz ∧ va_P (dC, dI) vwCl [(h0, .inr (15, [.ref a, v1, v2, v3, v4, .int th])), (a, .inr (4, [w0, w1, .int 0]))] U.heap ∧ va_K (dC, dI) vwCl [] U ∧ va_D (fun _ => True) [(h0, .inr (15, [.ref a, v1, v2, v3, v4, .int th])), (a, .inr (4, [w0, w1, .int 0]))])) (va_Qi (fun (r : Int32) (_ : Unit) => r = 0) (fun (_ : Unit) (t : State) => va_P (dC, dI) vwCl [(h0, .inr (15, [.ref a, v1, v2, v3, v4, .int 1])), (a, .inr (4, [w0, w1, .int 0]))] t.heap ∧ va_K (dC, dI) vwCl [] t ∧ va_D (va_A [(h0, .inr (15, [.ref a, v1, v2, v3, v4, .int th])), (a, .inr (4, [w0, w1, .int 0]))] sz) [(h0, .inr (15, [.ref a, v1, v2, v3, v4, .int 1])), (a, .inr (4, [w0, w1, .int 0]))]) (va_A [(h0, .inr (15, [.ref a, v1, v2, v3, v4, .int th])), (a, .inr (4, [w0, w1, .int 0]))] sz)) 0 0 (va_A [(h0, .inr (15, [.ref a, v1, v2, v3, v4, .int th])), (a, .inr (4, [w0, w1, .int 0]))] sz) := by
  refine Met.ofW (cc := cX10_getResonance) (maxL := 2) (ret := (some .int)) (by decide) rfl ?_
  intro p e s m args below meth c s₁ B hml hv
  obtain ⟨rfl, hsz, hP, hK, hD0⟩ := hv
  have hx := B.exec
  have hb := B.bytes
  have hr := B.returns
  have hts0 := atoms_spec (ws := (pw_ws yX10_getResonance cX10_getResonance 2 (some .int))) B.pre
  have hts : ∀ w ∈ pw_all, w.before _ s = true := fun w h => hts0 w (List.mem_cons_of_mem _ h)
  have hown : s.vm.findClass RX10 = some m.cls := findClass_of_methodNamed B.named
  have hlocks := B.notSynchronized
  subst hsz
  have hD := hD0.self (sz := s.heap.size)
  generalize hAe : va_A [(h0, .inr (15, [.ref a, v1, v2, v3, v4, .int th])), (a, .inr (4, [w0, w1, .int 0]))] s.heap.size = A at hD ⊢
  have hA : ∀ q : Nat, s.heap.size ≤ q → A q := fun q h => by rw [← hAe]; exact Or.inr h
  have hS : va_S A s.heap s.heap [] := va_S.rf
  have hP : va_P (dC, dI) vwCl [(h0, .inr (15, [.ref a, v1, v2, v3, v4, .int th])), (a, .inr (4, [w0, w1, .int 0]))] s.heap := hP
  have hl := lv_entry ([.ref h0, .int p0]) (n := 2) (Nat.le_of_ble_eq_true rfl)
  rw [lg_entry_eq]
  generalize (lg_sl ([.ref h0, .int p0]) ++ List.replicate (2 - (lg_sl ([.ref h0, .int p0])).length) Slot.unset).toArray = ls at hl ⊢
  have hl : lv_has ls 2 [(0, .ref h0), (1, .int p0)] := hl
  skip
  refine lv_aload_n hx hb dX10_getResonance_0 rfl (lv_at hl 0 rfl) ?_
  refine lv_aload_n hx hb dX10_getResonance_1 rfl (lv_at hl 0 rfl) ?_
  refine lv_iload_n hx hb dX10_getResonance_2 rfl (lv_at hl 1 rfl) ?_
  have hPc := hP.sub (ws' := [(h0, .inr (15, [.ref a, v1, v2, v3, v4, .int th])), (a, .inr (4, [w0, w1, .int 0]))]) [0, 1] rfl
  have hDc := hD.sub (ws' := [(h0, .inr (15, [.ref a, v1, v2, v3, v4, .int th])), (a, .inr (4, [w0, w1, .int 0]))]) [0, 1] (by decide) rfl
  have hKc := hK.sub (tys' := []) [] rfl
  have hFc := va_free (wc := [(h0, .inr (15, [.ref a, v1, v2, v3, v4, .int th])), (a, .inr (4, [w0, w1, .int 0]))]) hD hS hA [0, 1] rfl
  refine va_calli (va_runV (As := [.int p0]) (rest := [.ref h0]) ⟨hx, hb, hml, hown, hts⟩ (n_isNoStructure l dC dI s.heap.size h0 a v1 v2 v3 v4 (.int th) w0 w1 p0) (cwV 1 hts (pw_V q1295 q1297 q20 q49 q1298) rfl rfl rfl (by decide +kernel) ⟨(Nat.le_of_ble_eq_true rfl), (Nat.le_of_ble_eq_true rfl)⟩) ⟨fun a U g mk q => by obtain ⟨q0, q1, qP, qK, qD⟩ := q; exact ⟨q0, q1, qP, va_K.moved (u := U) (U := U.calling g mk a) (Vm.Alike.refl U.vm) qK, qD⟩, va_recv hKc hPc (ci := 15) (q0 := 0) rfl rfl, fun U hU hW => ⟨rfl, by rw [hU], by rw [hU]; exact hPc, va_K.moved hW.alike hKc, hDc.weaken (fun _ _ _ _ => trivial)⟩⟩ rfl rfl hl.1 rfl (lv_room (Nat.le_of_ble_eq_true rfl)) dX10_getResonance_3 ⟨(Nat.le_of_ble_eq_true rfl), (Nat.le_of_ble_eq_true rfl)⟩) hS (fun q _ h => hFc q h) hFc (fun r_271 u t H1 locs ht hvm hw hB hz1 hk1 hS => ?_)
  obtain ⟨hP1, hK1, hD1⟩ := hB
  rw [ht] at hP1
  have hK1 := va_K.moved hvm.symm hK1
  obtain ⟨hP, hD⟩ := va_join (wr := []) (w1 := [(h0, .inr (15, [.ref a, v1, v2, v3, v4, .int th])), (a, .inr (4, [w0, w1, .int 0]))]) hP hD [0, 1] [] rfl rfl (by decide) (by decide) hk1 hFc hP1 hD1
  have hK := (hK.sub (tys' := []) [] rfl).app hK1
  generalize H1 = H at hP hS ⊢
  have hP : va_P (dC, dI) vwCl [(h0, .inr (15, [.ref a, v1, v2, v3, v4, .int th])), (a, .inr (4, [w0, w1, .int 0]))] H := hP
  have hD : va_D A [(h0, .inr (15, [.ref a, v1, v2, v3, v4, .int th])), (a, .inr (4, [w0, w1, .int 0]))] := hD
  have hK : va_K (dC, dI) vwCl [] s := hK
  refine W.widen (k := 0) (n := 0) (Nat.le_of_ble_eq_true rfl) (Nat.le_of_ble_eq_true rfl) ?_
  have hw : r_271 = 1 := hw
  subst hw
  refine lv_iconst (v := 1) hx hb dX10_getResonance_6 (by decide) ?_
  have hPc := hP.sub (ws' := [(h0, .inr (15, [.ref a, v1, v2, v3, v4, .int th]))]) [0] rfl
  have hDc := hD.sub (ws' := [(h0, .inr (15, [.ref a, v1, v2, v3, v4, .int th]))]) [0] (by decide) rfl
  have hKc := hK.sub (tys' := []) [] rfl
  have hFc := va_free (wc := [(h0, .inr (15, [.ref a, v1, v2, v3, v4, .int th]))]) hD hS hA [0] rfl
  refine va_calli (va_runV (As := [.int 1, .int 1]) (rest := []) ⟨hx, hb, hml, hown, hts⟩ (n_isThrown1 l dC dI H.size h0 (.ref a) v1 v2 v3 v4 th 1) (cwV 2 hts (pw_V q1253 q1255 q19 q49 q1256) rfl rfl rfl (by decide +kernel) ⟨(Nat.le_of_ble_eq_true rfl), (Nat.le_of_ble_eq_true rfl)⟩) ⟨fun a U g mk q => by obtain ⟨q0, q1, qP, qK, qD⟩ := q; exact ⟨q0, q1, qP, va_K.moved (u := U) (U := U.calling g mk a) (Vm.Alike.refl U.vm) qK, qD⟩, va_recv hKc hPc (ci := 15) (q0 := 0) rfl rfl, fun U hU hW => ⟨rfl, by rw [hU], by rw [hU]; exact hPc, va_K.moved hW.alike hKc, hDc.weaken (fun _ _ _ _ => trivial)⟩⟩ rfl rfl hl.1 rfl (lv_room (Nat.le_of_ble_eq_true rfl)) dX10_getResonance_7 ⟨(Nat.le_of_ble_eq_true rfl), (Nat.le_of_ble_eq_true rfl)⟩) hS (fun q _ h => hFc q h) hFc (fun r_272 u t H1 locs ht hvm hw hB hz1 hk1 hS => ?_)
  obtain ⟨hP1, hK1, hD1⟩ := hB
  rw [ht] at hP1
  have hK1 := va_K.moved hvm.symm hK1
  obtain ⟨hP, hD⟩ := va_join (wr := [(a, .inr (4, [w0, w1, .int 0]))]) (w1 := [(h0, .inr (15, [.ref a, v1, v2, v3, v4, .int 1]))]) hP hD [0] [1] rfl rfl (by decide) (by decide) hk1 hFc hP1 hD1
  have hK := (hK.sub (tys' := []) [] rfl).app hK1
  generalize H1 = H at hP hS ⊢
  have hP : va_P (dC, dI) vwCl [(a, .inr (4, [w0, w1, .int 0])), (h0, .inr (15, [.ref a, v1, v2, v3, v4, .int 1]))] H := hP
  have hD : va_D A [(a, .inr (4, [w0, w1, .int 0])), (h0, .inr (15, [.ref a, v1, v2, v3, v4, .int 1]))] := hD
  have hK : va_K (dC, dI) vwCl [] s := hK
  refine W.widen (k := 0) (n := 0) (Nat.le_of_ble_eq_true rfl) (Nat.le_of_ble_eq_true rfl) ?_
  have hw : r_272 = 1 := hw
  subst hw
  refine lv_if_ne (tgt := 26) hx hb dX10_getResonance_10 (by decide) (fun c_273 => ?_) (fun c_273 => absurd c_273 (by decide))
  refine lv_iconst (v := 0) hx hb dX10_getResonance_26 (by decide) ?_
  refine lv_goto (tgt := 35) hx hb dX10_getResonance_27 (by decide) ?_
  have hP9 := hP.sub (ws' := [(h0, .inr (15, [.ref a, v1, v2, v3, v4, .int 1])), (a, .inr (4, [w0, w1, .int 0]))]) [1, 0] rfl
  have hD9 := hD.sub (ws' := [(h0, .inr (15, [.ref a, v1, v2, v3, v4, .int 1])), (a, .inr (4, [w0, w1, .int 0]))]) [1, 0] (by decide) rfl
  have hK9 := hK.sub (tys' := []) [] rfl
  refine W.widen (k := 0) (n := 0) (Nat.le_of_ble_eq_true rfl) (Nat.le_of_ble_eq_true rfl) ?_
  exact W.iret (v := 0) hx hb hr (fun t ht hW => ⟨⟨0, (), rfl, rfl, ⟨by rw [ht]; exact hP9, va_K.moved hW.alike hK9, hD9⟩⟩, hS.F ht⟩) hS.2.2 dX10_getResonance_35
set_option maxHeartbeats 4000000 in
set_option maxRecDepth 100000 in
theorem y_addSensor (l : Launch) (dC : Nat → ClassId) (dI : Nat → Nat → Nat) (sz : Nat) (h0 : Nat) (a : Nat) (v1 : Value) (v2 : Value) (v3 : Value) (v4 : Value) (w0 : Value) (w1 : Value) (th : Int32) (p0 : Int32) (p1 : Int32) (p2 : Int32) (p3 : Int32) : Met l yX10_addSensor (pw_ws yX10_addSensor cX10_addSensor 5 (some .int)) ({ frames := 4, cells := 0, slots := 0, locals := 85 } : Room) (va_Pc [.ref h0, .int p0, .int p1, .int p2, .int p3] (fun U => U.heap.size = sz ∧ va_P (dC, dI) vwCl [(h0, .inr (15, [.ref a, v1, v2, v3, v4, .int th])), (a, .inr (4, [w0, w1, .int 0]))] U.heap ∧ va_K (dC, dI) vwCl [] U ∧ va_D (fun _ => True) [(h0, .inr (15, [.ref a, v1, v2, v3, v4, .int th])), (a, .inr (4, [w0, w1, .int 0]))])) (va_Qi (fun (r : Int32) (_ : Unit) => r = 0) (fun (_ : Unit) (t : State) => va_P (dC, dI) vwCl [(h0, .inr (15, [.ref a, v1, v2, v3, v4, .int 1])), (a, .inr (4, [w0, w1, .int 0]))] t.heap ∧ va_K (dC, dI) vwCl [] t ∧ va_D (va_A [(h0, .inr (15, [.ref a, v1, v2, v3, v4, .int th])), (a, .inr (4, [w0, w1, .int 0]))] sz) [(h0, .inr (15, [.ref a, v1, v2, v3, v4, .int 1])), (a, .inr (4, [w0, w1, .int 0]))]) (va_A [(h0, .inr (15, [.ref a, v1, v2, v3, v4, .int th])), (a, .inr (4, [w0, w1, .int 0]))] sz)) 0 0 (va_A [(h0, .inr (15, [.ref a, v1, v2, v3, v4, .int th])), (a, .inr (4, [w0, w1, .int 0]))] sz) := by
  refine Met.ofW (cc := cX10_addSensor) (maxL := 5) (ret := (some .int)) (by decide) rfl ?_
  intro p e s m args below meth c s₁ B hml hv
  obtain ⟨rfl, hsz, hP, hK, hD0⟩ := hv
  have hx := B.exec
  have hb := B.bytes
  have hr := B.returns
  have hts0 := atoms_spec (ws := (pw_ws yX10_addSensor cX10_addSensor 5 (some .int))) B.pre
  have hts : ∀ w ∈ pw_all, w.before _ s = true := fun w h => hts0 w (List.mem_cons_of_mem _ h)
  have hown : s.vm.findClass RX10 = some m.cls := findClass_of_methodNamed B.named
  have hlocks := B.notSynchronized
  subst hsz
  have hD := hD0.self (sz := s.heap.size)
  generalize hAe : va_A [(h0, .inr (15, [.ref a, v1, v2, v3, v4, .int th])), (a, .inr (4, [w0, w1, .int 0]))] s.heap.size = A at hD ⊢
  have hA : ∀ q : Nat, s.heap.size ≤ q → A q := fun q h => by rw [← hAe]; exact Or.inr h
  have hS : va_S A s.heap s.heap [] := va_S.rf
  have hP : va_P (dC, dI) vwCl [(h0, .inr (15, [.ref a, v1, v2, v3, v4, .int th])), (a, .inr (4, [w0, w1, .int 0]))] s.heap := hP
  have hl := lv_entry ([.ref h0, .int p0, .int p1, .int p2, .int p3]) (n := 5) (Nat.le_of_ble_eq_true rfl)
  rw [lg_entry_eq]
  generalize (lg_sl ([.ref h0, .int p0, .int p1, .int p2, .int p3]) ++ List.replicate (5 - (lg_sl ([.ref h0, .int p0, .int p1, .int p2, .int p3])).length) Slot.unset).toArray = ls at hl ⊢
  have hl : lv_has ls 5 [(0, .ref h0), (1, .int p0), (2, .int p1), (3, .int p2), (4, .int p3)] := hl
  skip
  refine lv_aload_n hx hb dX10_addSensor_0 rfl (lv_at hl 0 rfl) ?_
  refine lv_aload_n hx hb dX10_addSensor_1 rfl (lv_at hl 0 rfl) ?_
  refine lv_iload_n hx hb dX10_addSensor_2 rfl (lv_at hl 1 rfl) ?_
  refine lv_iload_n hx hb dX10_addSensor_3 rfl (lv_at hl 2 rfl) ?_
  have hPc := hP.sub (ws' := [(h0, .inr (15, [.ref a, v1, v2, v3, v4, .int th])), (a, .inr (4, [w0, w1, .int 0]))]) [0, 1] rfl
  have hDc := hD.sub (ws' := [(h0, .inr (15, [.ref a, v1, v2, v3, v4, .int th])), (a, .inr (4, [w0, w1, .int 0]))]) [0, 1] (by decide) rfl
  have hKc := hK.sub (tys' := []) [] rfl
  have hFc := va_free (wc := [(h0, .inr (15, [.ref a, v1, v2, v3, v4, .int th])), (a, .inr (4, [w0, w1, .int 0]))]) hD hS hA [0, 1] rfl
  refine va_calli (va_runV (As := [.int p0, .int p1]) (rest := [.ref h0]) ⟨hx, hb, hml, hown, hts⟩ (n_isNoMass l dC dI s.heap.size h0 a v1 v2 v3 v4 (.int th) w0 w1 p0 p1) (cwV 2 hts (pw_V q1307 q1309 q21 q49 q1310) rfl rfl rfl (by decide +kernel) ⟨(Nat.le_of_ble_eq_true rfl), (Nat.le_of_ble_eq_true rfl)⟩) ⟨fun a U g mk q => by obtain ⟨q0, q1, qP, qK, qD⟩ := q; exact ⟨q0, q1, qP, va_K.moved (u := U) (U := U.calling g mk a) (Vm.Alike.refl U.vm) qK, qD⟩, va_recv hKc hPc (ci := 15) (q0 := 0) rfl rfl, fun U hU hW => ⟨rfl, by rw [hU], by rw [hU]; exact hPc, va_K.moved hW.alike hKc, hDc.weaken (fun _ _ _ _ => trivial)⟩⟩ rfl rfl hl.1 rfl (lv_room (Nat.le_of_ble_eq_true rfl)) dX10_addSensor_4 ⟨(Nat.le_of_ble_eq_true rfl), (Nat.le_of_ble_eq_true rfl)⟩) hS (fun q _ h => hFc q h) hFc (fun r_274 u t H1 locs ht hvm hw hB hz1 hk1 hS => ?_)
  obtain ⟨hP1, hK1, hD1⟩ := hB
  rw [ht] at hP1
  have hK1 := va_K.moved hvm.symm hK1
  obtain ⟨hP, hD⟩ := va_join (wr := []) (w1 := [(h0, .inr (15, [.ref a, v1, v2, v3, v4, .int th])), (a, .inr (4, [w0, w1, .int 0]))]) hP hD [0, 1] [] rfl rfl (by decide) (by decide) hk1 hFc hP1 hD1
  have hK := (hK.sub (tys' := []) [] rfl).app hK1
  generalize H1 = H at hP hS ⊢
  have hP : va_P (dC, dI) vwCl [(h0, .inr (15, [.ref a, v1, v2, v3, v4, .int th])), (a, .inr (4, [w0, w1, .int 0]))] H := hP
  have hD : va_D A [(h0, .inr (15, [.ref a, v1, v2, v3, v4, .int th])), (a, .inr (4, [w0, w1, .int 0]))] := hD
  have hK : va_K (dC, dI) vwCl [] s := hK
  refine W.widen (k := 0) (n := 0) (Nat.le_of_ble_eq_true rfl) (Nat.le_of_ble_eq_true rfl) ?_
  have hw : r_274 = 1 := hw
  subst hw
  refine lv_iconst (v := 1) hx hb dX10_addSensor_7 (by decide) ?_
  have hPc := hP.sub (ws' := [(h0, .inr (15, [.ref a, v1, v2, v3, v4, .int th]))]) [0] rfl
  have hDc := hD.sub (ws' := [(h0, .inr (15, [.ref a, v1, v2, v3, v4, .int th]))]) [0] (by decide) rfl
  have hKc := hK.sub (tys' := []) [] rfl
  have hFc := va_free (wc := [(h0, .inr (15, [.ref a, v1, v2, v3, v4, .int th]))]) hD hS hA [0] rfl
  refine va_calli (va_runV (As := [.int 1, .int 1]) (rest := []) ⟨hx, hb, hml, hown, hts⟩ (n_isThrown1 l dC dI H.size h0 (.ref a) v1 v2 v3 v4 th 1) (cwV 2 hts (pw_V q1253 q1255 q19 q49 q1256) rfl rfl rfl (by decide +kernel) ⟨(Nat.le_of_ble_eq_true rfl), (Nat.le_of_ble_eq_true rfl)⟩) ⟨fun a U g mk q => by obtain ⟨q0, q1, qP, qK, qD⟩ := q; exact ⟨q0, q1, qP, va_K.moved (u := U) (U := U.calling g mk a) (Vm.Alike.refl U.vm) qK, qD⟩, va_recv hKc hPc (ci := 15) (q0 := 0) rfl rfl, fun U hU hW => ⟨rfl, by rw [hU], by rw [hU]; exact hPc, va_K.moved hW.alike hKc, hDc.weaken (fun _ _ _ _ => trivial)⟩⟩ rfl rfl hl.1 rfl (lv_room (Nat.le_of_ble_eq_true rfl)) dX10_addSensor_8 ⟨(Nat.le_of_ble_eq_true rfl), (Nat.le_of_ble_eq_true rfl)⟩) hS (fun q _ h => hFc q h) hFc (fun r_275 u t H1 locs ht hvm hw hB hz1 hk1 hS => ?_)
  obtain ⟨hP1, hK1, hD1⟩ := hB
  rw [ht] at hP1
  have hK1 := va_K.moved hvm.symm hK1
  obtain ⟨hP, hD⟩ := va_join (wr := [(a, .inr (4, [w0, w1, .int 0]))]) (w1 := [(h0, .inr (15, [.ref a, v1, v2, v3, v4, .int 1]))]) hP hD [0] [1] rfl rfl (by decide) (by decide) hk1 hFc hP1 hD1
  have hK := (hK.sub (tys' := []) [] rfl).app hK1
  generalize H1 = H at hP hS ⊢
  have hP : va_P (dC, dI) vwCl [(a, .inr (4, [w0, w1, .int 0])), (h0, .inr (15, [.ref a, v1, v2, v3, v4, .int 1]))] H := hP
  have hD : va_D A [(a, .inr (4, [w0, w1, .int 0])), (h0, .inr (15, [.ref a, v1, v2, v3, v4, .int 1]))] := hD
  have hK : va_K (dC, dI) vwCl [] s := hK
  refine W.widen (k := 0) (n := 0) (Nat.le_of_ble_eq_true rfl) (Nat.le_of_ble_eq_true rfl) ?_
  have hw : r_275 = 1 := hw
  subst hw
  refine lv_if_ne (tgt := 75) hx hb dX10_addSensor_11 (by decide) (fun c_276 => ?_) (fun c_276 => absurd c_276 (by decide))
  refine lv_iconst (v := 0) hx hb dX10_addSensor_75 (by decide) ?_
  have hP9 := hP.sub (ws' := [(h0, .inr (15, [.ref a, v1, v2, v3, v4, .int 1])), (a, .inr (4, [w0, w1, .int 0]))]) [1, 0] rfl
  have hD9 := hD.sub (ws' := [(h0, .inr (15, [.ref a, v1, v2, v3, v4, .int 1])), (a, .inr (4, [w0, w1, .int 0]))]) [1, 0] (by decide) rfl
  have hK9 := hK.sub (tys' := []) [] rfl
  refine W.widen (k := 0) (n := 0) (Nat.le_of_ble_eq_true rfl) (Nat.le_of_ble_eq_true rfl) ?_
  exact W.iret (v := 0) hx hb hr (fun t ht hW => ⟨⟨0, (), rfl, rfl, ⟨by rw [ht]; exact hP9, va_K.moved hW.alike hK9, hD9⟩⟩, hS.F ht⟩) hS.2.2 dX10_addSensor_76
set_option maxHeartbeats 4000000 in
set_option maxRecDepth 100000 in
theorem y_addRun (l : Launch) (dC : Nat → ClassId) (dI : Nat → Nat → Nat) (sz : Nat) (h0 : Nat) (a : Nat) (v1 : Value) (v2 : Value) (v3 : Value) (v4 : Value) (w0 : Value) (w1 : Value) (th : Int32) (p0 : Int32) (p1 : Int32) (p2 : Int32) : Met l yX10_addRun (pw_ws yX10_addRun cX10_addRun 4 (some .int)) ({ frames := 3, cells := 0, slots := 0, locals := 63 } : Room) (va_Pc [.ref h0, .int p0, .int p1, .int p2] (fun U => U.heap.size = sz ∧ va_P (dC, dI) vwCl [(h0, .inr (15, [.ref a, v1, v2, v3, v4, .int th])), (a, .inr (4, [w0, w1, .int 0]))] U.heap ∧ va_K (dC, dI) vwCl [] U ∧ va_D (fun _ => True) [(h0, .inr (15, [.ref a, v1, v2, v3, v4, .int th])), (a, .inr (4, [w0, w1, .int 0]))])) (va_Qi (fun (r : Int32) (_ : Unit) => r = 0) (fun (_ : Unit) (t : State) => va_P (dC, dI) vwCl [(h0, .inr (15, [.ref a, v1, v2, v3, v4, .int 1])), (a, .inr (4, [w0, w1, .int 0]))] t.heap ∧ va_K (dC, dI) vwCl [] t ∧ va_D (va_A [(h0, .inr (15, [.ref a, v1, v2, v3, v4, .int th])), (a, .inr (4, [w0, w1, .int 0]))] sz) [(h0, .inr (15, [.ref a, v1, v2, v3, v4, .int 1])), (a, .inr (4, [w0, w1, .int 0]))]) (va_A [(h0, .inr (15, [.ref a, v1, v2, v3, v4, .int th])), (a, .inr (4, [w0, w1, .int 0]))] sz)) 0 0 (va_A [(h0, .inr (15, [.ref a, v1, v2, v3, v4, .int th])), (a, .inr (4, [w0, w1, .int 0]))] sz) := by
  refine Met.ofW (cc := cX10_addRun) (maxL := 4) (ret := (some .int)) (by decide) rfl ?_
  intro p e s m args below meth c s₁ B hml hv
  obtain ⟨rfl, hsz, hP, hK, hD0⟩ := hv
  have hx := B.exec
  have hb := B.bytes
  have hr := B.returns
  have hts0 := atoms_spec (ws := (pw_ws yX10_addRun cX10_addRun 4 (some .int))) B.pre
  have hts : ∀ w ∈ pw_all, w.before _ s = true := fun w h => hts0 w (List.mem_cons_of_mem _ h)
  have hown : s.vm.findClass RX10 = some m.cls := findClass_of_methodNamed B.named
  have hlocks := B.notSynchronized
  subst hsz
  have hD := hD0.self (sz := s.heap.size)
  generalize hAe : va_A [(h0, .inr (15, [.ref a, v1, v2, v3, v4, .int th])), (a, .inr (4, [w0, w1, .int 0]))] s.heap.size = A at hD ⊢
  have hA : ∀ q : Nat, s.heap.size ≤ q → A q := fun q h => by rw [← hAe]; exact Or.inr h
  have hS : va_S A s.heap s.heap [] := va_S.rf
  have hP : va_P (dC, dI) vwCl [(h0, .inr (15, [.ref a, v1, v2, v3, v4, .int th])), (a, .inr (4, [w0, w1, .int 0]))] s.heap := hP
  have hl := lv_entry ([.ref h0, .int p0, .int p1, .int p2]) (n := 4) (Nat.le_of_ble_eq_true rfl)
  rw [lg_entry_eq]
  generalize (lg_sl ([.ref h0, .int p0, .int p1, .int p2]) ++ List.replicate (4 - (lg_sl ([.ref h0, .int p0, .int p1, .int p2])).length) Slot.unset).toArray = ls at hl ⊢
  have hl : lv_has ls 4 [(0, .ref h0), (1, .int p0), (2, .int p1), (3, .int p2)] := hl
  skip
  refine lv_aload_n hx hb dX10_addRun_0 rfl (lv_at hl 0 rfl) ?_
  refine lv_aload_n hx hb dX10_addRun_1 rfl (lv_at hl 0 rfl) ?_
  refine lv_iload_n hx hb dX10_addRun_2 rfl (lv_at hl 1 rfl) ?_
  have hPc := hP.sub (ws' := [(h0, .inr (15, [.ref a, v1, v2, v3, v4, .int th])), (a, .inr (4, [w0, w1, .int 0]))]) [0, 1] rfl
  have hDc := hD.sub (ws' := [(h0, .inr (15, [.ref a, v1, v2, v3, v4, .int th])), (a, .inr (4, [w0, w1, .int 0]))]) [0, 1] (by decide) rfl
  have hKc := hK.sub (tys' := []) [] rfl
  have hFc := va_free (wc := [(h0, .inr (15, [.ref a, v1, v2, v3, v4, .int th])), (a, .inr (4, [w0, w1, .int 0]))]) hD hS hA [0, 1] rfl
  refine va_calli (va_runV (As := [.int p0]) (rest := [.ref h0]) ⟨hx, hb, hml, hown, hts⟩ (n_isNoStructure l dC dI s.heap.size h0 a v1 v2 v3 v4 (.int th) w0 w1 p0) (cwV 1 hts (pw_V q1295 q1297 q20 q49 q1298) rfl rfl rfl (by decide +kernel) ⟨(Nat.le_of_ble_eq_true rfl), (Nat.le_of_ble_eq_true rfl)⟩) ⟨fun a U g mk q => by obtain ⟨q0, q1, qP, qK, qD⟩ := q; exact ⟨q0, q1, qP, va_K.moved (u := U) (U := U.calling g mk a) (Vm.Alike.refl U.vm) qK, qD⟩, va_recv hKc hPc (ci := 15) (q0 := 0) rfl rfl, fun U hU hW => ⟨rfl, by rw [hU], by rw [hU]; exact hPc, va_K.moved hW.alike hKc, hDc.weaken (fun _ _ _ _ => trivial)⟩⟩ rfl rfl hl.1 rfl (lv_room (Nat.le_of_ble_eq_true rfl)) dX10_addRun_3 ⟨(Nat.le_of_ble_eq_true rfl), (Nat.le_of_ble_eq_true rfl)⟩) hS (fun q _ h => hFc q h) hFc (fun r_277 u t H1 locs ht hvm hw hB hz1 hk1 hS => ?_)
  obtain ⟨hP1, hK1, hD1⟩ := hB
  rw [ht] at hP1
  have hK1 := va_K.moved hvm.symm hK1
  obtain ⟨hP, hD⟩ := va_join (wr := []) (w1 := [(h0, .inr (15, [.ref a, v1, v2, v3, v4, .int th])), (a, .inr (4, [w0, w1, .int 0]))]) hP hD [0, 1] [] rfl rfl (by decide) (by decide) hk1 hFc hP1 hD1
  have hK := (hK.sub (tys' := []) [] rfl).app hK1
  generalize H1 = H at hP hS ⊢
  have hP : va_P (dC, dI) vwCl [(h0, .inr (15, [.ref a, v1, v2, v3, v4, .int th])), (a, .inr (4, [w0, w1, .int 0]))] H := hP
  have hD : va_D A [(h0, .inr (15, [.ref a, v1, v2, v3, v4, .int th])), (a, .inr (4, [w0, w1, .int 0]))] := hD
  have hK : va_K (dC, dI) vwCl [] s := hK
  refine W.widen (k := 0) (n := 0) (Nat.le_of_ble_eq_true rfl) (Nat.le_of_ble_eq_true rfl) ?_
  have hw : r_277 = 1 := hw
  subst hw
  refine lv_if_ne (tgt := 17) hx hb dX10_addRun_6 (by decide) (fun c_278 => ?_) (fun c_278 => absurd c_278 (by decide))
  refine lv_iconst (v := 1) hx hb dX10_addRun_17 (by decide) ?_
  refine lv_goto (tgt := 22) hx hb dX10_addRun_18 (by decide) ?_
  refine lv_iconst (v := 1) hx hb dX10_addRun_22 (by decide) ?_
  have hPc := hP.sub (ws' := [(h0, .inr (15, [.ref a, v1, v2, v3, v4, .int th]))]) [0] rfl
  have hDc := hD.sub (ws' := [(h0, .inr (15, [.ref a, v1, v2, v3, v4, .int th]))]) [0] (by decide) rfl
  have hKc := hK.sub (tys' := []) [] rfl
  have hFc := va_free (wc := [(h0, .inr (15, [.ref a, v1, v2, v3, v4, .int th]))]) hD hS hA [0] rfl
  refine va_calli (va_runV (As := [.int 1, .int 1]) (rest := []) ⟨hx, hb, hml, hown, hts⟩ (n_isThrown1 l dC dI H.size h0 (.ref a) v1 v2 v3 v4 th 1) (cwV 2 hts (pw_V q1253 q1255 q19 q49 q1256) rfl rfl rfl (by decide +kernel) ⟨(Nat.le_of_ble_eq_true rfl), (Nat.le_of_ble_eq_true rfl)⟩) ⟨fun a U g mk q => by obtain ⟨q0, q1, qP, qK, qD⟩ := q; exact ⟨q0, q1, qP, va_K.moved (u := U) (U := U.calling g mk a) (Vm.Alike.refl U.vm) qK, qD⟩, va_recv hKc hPc (ci := 15) (q0 := 0) rfl rfl, fun U hU hW => ⟨rfl, by rw [hU], by rw [hU]; exact hPc, va_K.moved hW.alike hKc, hDc.weaken (fun _ _ _ _ => trivial)⟩⟩ rfl rfl hl.1 rfl (lv_room (Nat.le_of_ble_eq_true rfl)) dX10_addRun_23 ⟨(Nat.le_of_ble_eq_true rfl), (Nat.le_of_ble_eq_true rfl)⟩) hS (fun q _ h => hFc q h) hFc (fun r_279 u t H1 locs ht hvm hw hB hz1 hk1 hS => ?_)
  obtain ⟨hP1, hK1, hD1⟩ := hB
  rw [ht] at hP1
  have hK1 := va_K.moved hvm.symm hK1
  obtain ⟨hP, hD⟩ := va_join (wr := [(a, .inr (4, [w0, w1, .int 0]))]) (w1 := [(h0, .inr (15, [.ref a, v1, v2, v3, v4, .int 1]))]) hP hD [0] [1] rfl rfl (by decide) (by decide) hk1 hFc hP1 hD1
  have hK := (hK.sub (tys' := []) [] rfl).app hK1
  generalize H1 = H at hP hS ⊢
  have hP : va_P (dC, dI) vwCl [(a, .inr (4, [w0, w1, .int 0])), (h0, .inr (15, [.ref a, v1, v2, v3, v4, .int 1]))] H := hP
  have hD : va_D A [(a, .inr (4, [w0, w1, .int 0])), (h0, .inr (15, [.ref a, v1, v2, v3, v4, .int 1]))] := hD
  have hK : va_K (dC, dI) vwCl [] s := hK
  refine W.widen (k := 0) (n := 0) (Nat.le_of_ble_eq_true rfl) (Nat.le_of_ble_eq_true rfl) ?_
  have hw : r_279 = 1 := hw
  subst hw
  refine lv_if_ne (tgt := 98) hx hb dX10_addRun_26 (by decide) (fun c_280 => ?_) (fun c_280 => absurd c_280 (by decide))
  refine lv_iconst (v := 0) hx hb dX10_addRun_98 (by decide) ?_
  have hP9 := hP.sub (ws' := [(h0, .inr (15, [.ref a, v1, v2, v3, v4, .int 1])), (a, .inr (4, [w0, w1, .int 0]))]) [1, 0] rfl
  have hD9 := hD.sub (ws' := [(h0, .inr (15, [.ref a, v1, v2, v3, v4, .int 1])), (a, .inr (4, [w0, w1, .int 0]))]) [1, 0] (by decide) rfl
  have hK9 := hK.sub (tys' := []) [] rfl
  refine W.widen (k := 0) (n := 0) (Nat.le_of_ble_eq_true rfl) (Nat.le_of_ble_eq_true rfl) ?_
  exact W.iret (v := 0) hx hb hr (fun t ht hW => ⟨⟨0, (), rfl, rfl, ⟨by rw [ht]; exact hP9, va_K.moved hW.alike hK9, hD9⟩⟩, hS.F ht⟩) hS.2.2 dX10_addRun_99
set_option maxHeartbeats 4000000 in
set_option maxRecDepth 100000 in
theorem y_getFelt (l : Launch) (dC : Nat → ClassId) (dI : Nat → Nat → Nat) (sz : Nat) (h0 : Nat) (a : Nat) (v1 : Value) (v2 : Value) (v3 : Value) (v4 : Value) (w0 : Value) (w1 : Value) (th : Int32) (p0 : Int32) (p1 : Int32) : Met l yX10_getFelt (pw_ws yX10_getFelt cX10_getFelt 3 (some .int)) ({ frames := 3, cells := 0, slots := 0, locals := 63 } : Room) (va_Pc [.ref h0, .int p0, .int p1] (fun U => U.heap.size = sz ∧ va_P (dC, dI) vwCl [(h0, .inr (15, [.ref a, v1, v2, v3, v4, .int th])), (a, .inr (4, [w0, w1, .int 0]))] U.heap ∧ va_K (dC, dI) vwCl [] U ∧ va_D (fun _ => True) [(h0, .inr (15, [.ref a, v1, v2, v3, v4, .int th])), (a, .inr (4, [w0, w1, .int 0]))])) (va_Qi (fun (r : Int32) (_ : Unit) => r = 0) (fun (_ : Unit) (t : State) => va_P (dC, dI) vwCl [(h0, .inr (15, [.ref a, v1, v2, v3, v4, .int 1])), (a, .inr (4, [w0, w1, .int 0]))] t.heap ∧ va_K (dC, dI) vwCl [] t ∧ va_D (va_A [(h0, .inr (15, [.ref a, v1, v2, v3, v4, .int th])), (a, .inr (4, [w0, w1, .int 0]))] sz) [(h0, .inr (15, [.ref a, v1, v2, v3, v4, .int 1])), (a, .inr (4, [w0, w1, .int 0]))]) (va_A [(h0, .inr (15, [.ref a, v1, v2, v3, v4, .int th])), (a, .inr (4, [w0, w1, .int 0]))] sz)) 0 0 (va_A [(h0, .inr (15, [.ref a, v1, v2, v3, v4, .int th])), (a, .inr (4, [w0, w1, .int 0]))] sz) := by
  refine Met.ofW (cc := cX10_getFelt) (maxL := 3) (ret := (some .int)) (by decide) rfl ?_
  intro p e s m args below meth c s₁ B hml hv
  obtain ⟨rfl, hsz, hP, hK, hD0⟩ := hv
  have hx := B.exec
  have hb := B.bytes
  have hr := B.returns
  have hts0 := atoms_spec (ws := (pw_ws yX10_getFelt cX10_getFelt 3 (some .int))) B.pre
  have hts : ∀ w ∈ pw_all, w.before _ s = true := fun w h => hts0 w (List.mem_cons_of_mem _ h)
  have hown : s.vm.findClass RX10 = some m.cls := findClass_of_methodNamed B.named
  have hlocks := B.notSynchronized
  subst hsz
  have hD := hD0.self (sz := s.heap.size)
  generalize hAe : va_A [(h0, .inr (15, [.ref a, v1, v2, v3, v4, .int th])), (a, .inr (4, [w0, w1, .int 0]))] s.heap.size = A at hD ⊢
  have hA : ∀ q : Nat, s.heap.size ≤ q → A q := fun q h => by rw [← hAe]; exact Or.inr h
  have hS : va_S A s.heap s.heap [] := va_S.rf
  have hP : va_P (dC, dI) vwCl [(h0, .inr (15, [.ref a, v1, v2, v3, v4, .int th])), (a, .inr (4, [w0, w1, .int 0]))] s.heap := hP
  have hl := lv_entry ([.ref h0, .int p0, .int p1]) (n := 3) (Nat.le_of_ble_eq_true rfl)
  rw [lg_entry_eq]
  generalize (lg_sl ([.ref h0, .int p0, .int p1]) ++ List.replicate (3 - (lg_sl ([.ref h0, .int p0, .int p1])).length) Slot.unset).toArray = ls at hl ⊢
  have hl : lv_has ls 3 [(0, .ref h0), (1, .int p0), (2, .int p1)] := hl
  skip
  refine lv_aload_n hx hb dX10_getFelt_0 rfl (lv_at hl 0 rfl) ?_
  refine lv_aload_n hx hb dX10_getFelt_1 rfl (lv_at hl 0 rfl) ?_
  refine lv_iload_n hx hb dX10_getFelt_2 rfl (lv_at hl 1 rfl) ?_
  have hPc := hP.sub (ws' := [(h0, .inr (15, [.ref a, v1, v2, v3, v4, .int th])), (a, .inr (4, [w0, w1, .int 0]))]) [0, 1] rfl
  have hDc := hD.sub (ws' := [(h0, .inr (15, [.ref a, v1, v2, v3, v4, .int th])), (a, .inr (4, [w0, w1, .int 0]))]) [0, 1] (by decide) rfl
  have hKc := hK.sub (tys' := []) [] rfl
  have hFc := va_free (wc := [(h0, .inr (15, [.ref a, v1, v2, v3, v4, .int th])), (a, .inr (4, [w0, w1, .int 0]))]) hD hS hA [0, 1] rfl
  refine va_calli (va_runV (As := [.int p0]) (rest := [.ref h0]) ⟨hx, hb, hml, hown, hts⟩ (n_isNoStructure l dC dI s.heap.size h0 a v1 v2 v3 v4 (.int th) w0 w1 p0) (cwV 1 hts (pw_V q1295 q1297 q20 q49 q1298) rfl rfl rfl (by decide +kernel) ⟨(Nat.le_of_ble_eq_true rfl), (Nat.le_of_ble_eq_true rfl)⟩) ⟨fun a U g mk q => by obtain ⟨q0, q1, qP, qK, qD⟩ := q; exact ⟨q0, q1, qP, va_K.moved (u := U) (U := U.calling g mk a) (Vm.Alike.refl U.vm) qK, qD⟩, va_recv hKc hPc (ci := 15) (q0 := 0) rfl rfl, fun U hU hW => ⟨rfl, by rw [hU], by rw [hU]; exact hPc, va_K.moved hW.alike hKc, hDc.weaken (fun _ _ _ _ => trivial)⟩⟩ rfl rfl hl.1 rfl (lv_room (Nat.le_of_ble_eq_true rfl)) dX10_getFelt_3 ⟨(Nat.le_of_ble_eq_true rfl), (Nat.le_of_ble_eq_true rfl)⟩) hS (fun q _ h => hFc q h) hFc (fun r_281 u t H1 locs ht hvm hw hB hz1 hk1 hS => ?_)
  obtain ⟨hP1, hK1, hD1⟩ := hB
  rw [ht] at hP1
  have hK1 := va_K.moved hvm.symm hK1
  obtain ⟨hP, hD⟩ := va_join (wr := []) (w1 := [(h0, .inr (15, [.ref a, v1, v2, v3, v4, .int th])), (a, .inr (4, [w0, w1, .int 0]))]) hP hD [0, 1] [] rfl rfl (by decide) (by decide) hk1 hFc hP1 hD1
  have hK := (hK.sub (tys' := []) [] rfl).app hK1
  generalize H1 = H at hP hS ⊢
  have hP : va_P (dC, dI) vwCl [(h0, .inr (15, [.ref a, v1, v2, v3, v4, .int th])), (a, .inr (4, [w0, w1, .int 0]))] H := hP
  have hD : va_D A [(h0, .inr (15, [.ref a, v1, v2, v3, v4, .int th])), (a, .inr (4, [w0, w1, .int 0]))] := hD
  have hK : va_K (dC, dI) vwCl [] s := hK
  refine W.widen (k := 0) (n := 0) (Nat.le_of_ble_eq_true rfl) (Nat.le_of_ble_eq_true rfl) ?_
  have hw : r_281 = 1 := hw
  subst hw
  refine lv_iconst (v := 1) hx hb dX10_getFelt_6 (by decide) ?_
  have hPc := hP.sub (ws' := [(h0, .inr (15, [.ref a, v1, v2, v3, v4, .int th]))]) [0] rfl
  have hDc := hD.sub (ws' := [(h0, .inr (15, [.ref a, v1, v2, v3, v4, .int th]))]) [0] (by decide) rfl
  have hKc := hK.sub (tys' := []) [] rfl
  have hFc := va_free (wc := [(h0, .inr (15, [.ref a, v1, v2, v3, v4, .int th]))]) hD hS hA [0] rfl
  refine va_calli (va_runV (As := [.int 1, .int 1]) (rest := []) ⟨hx, hb, hml, hown, hts⟩ (n_isThrown1 l dC dI H.size h0 (.ref a) v1 v2 v3 v4 th 1) (cwV 2 hts (pw_V q1253 q1255 q19 q49 q1256) rfl rfl rfl (by decide +kernel) ⟨(Nat.le_of_ble_eq_true rfl), (Nat.le_of_ble_eq_true rfl)⟩) ⟨fun a U g mk q => by obtain ⟨q0, q1, qP, qK, qD⟩ := q; exact ⟨q0, q1, qP, va_K.moved (u := U) (U := U.calling g mk a) (Vm.Alike.refl U.vm) qK, qD⟩, va_recv hKc hPc (ci := 15) (q0 := 0) rfl rfl, fun U hU hW => ⟨rfl, by rw [hU], by rw [hU]; exact hPc, va_K.moved hW.alike hKc, hDc.weaken (fun _ _ _ _ => trivial)⟩⟩ rfl rfl hl.1 rfl (lv_room (Nat.le_of_ble_eq_true rfl)) dX10_getFelt_7 ⟨(Nat.le_of_ble_eq_true rfl), (Nat.le_of_ble_eq_true rfl)⟩) hS (fun q _ h => hFc q h) hFc (fun r_282 u t H1 locs ht hvm hw hB hz1 hk1 hS => ?_)
  obtain ⟨hP1, hK1, hD1⟩ := hB
  rw [ht] at hP1
  have hK1 := va_K.moved hvm.symm hK1
  obtain ⟨hP, hD⟩ := va_join (wr := [(a, .inr (4, [w0, w1, .int 0]))]) (w1 := [(h0, .inr (15, [.ref a, v1, v2, v3, v4, .int 1]))]) hP hD [0] [1] rfl rfl (by decide) (by decide) hk1 hFc hP1 hD1
  have hK := (hK.sub (tys' := []) [] rfl).app hK1
  generalize H1 = H at hP hS ⊢
  have hP : va_P (dC, dI) vwCl [(a, .inr (4, [w0, w1, .int 0])), (h0, .inr (15, [.ref a, v1, v2, v3, v4, .int 1]))] H := hP
  have hD : va_D A [(a, .inr (4, [w0, w1, .int 0])), (h0, .inr (15, [.ref a, v1, v2, v3, v4, .int 1]))] := hD
  have hK : va_K (dC, dI) vwCl [] s := hK
  refine W.widen (k := 0) (n := 0) (Nat.le_of_ble_eq_true rfl) (Nat.le_of_ble_eq_true rfl) ?_
  have hw : r_282 = 1 := hw
  subst hw
  refine lv_if_ne (tgt := 25) hx hb dX10_getFelt_10 (by decide) (fun c_283 => ?_) (fun c_283 => absurd c_283 (by decide))
  refine lv_iconst (v := 0) hx hb dX10_getFelt_25 (by decide) ?_
  refine lv_goto (tgt := 45) hx hb dX10_getFelt_26 (by decide) ?_
  have hP9 := hP.sub (ws' := [(h0, .inr (15, [.ref a, v1, v2, v3, v4, .int 1])), (a, .inr (4, [w0, w1, .int 0]))]) [1, 0] rfl
  have hD9 := hD.sub (ws' := [(h0, .inr (15, [.ref a, v1, v2, v3, v4, .int 1])), (a, .inr (4, [w0, w1, .int 0]))]) [1, 0] (by decide) rfl
  have hK9 := hK.sub (tys' := []) [] rfl
  refine W.widen (k := 0) (n := 0) (Nat.le_of_ble_eq_true rfl) (Nat.le_of_ble_eq_true rfl) ?_
  exact W.iret (v := 0) hx hb hr (fun t ht hW => ⟨⟨0, (), rfl, rfl, ⟨by rw [ht]; exact hP9, va_K.moved hW.alike hK9, hD9⟩⟩, hS.F ht⟩) hS.2.2 dX10_getFelt_45
set_option maxHeartbeats 4000000 in
set_option maxRecDepth 100000 in
theorem y_sweep (l : Launch) (dC : Nat → ClassId) (dI : Nat → Nat → Nat) (sz : Nat) (h0 : Nat) (a : Nat) (v1 : Value) (v2 : Value) (v3 : Value) (v4 : Value) (w0 : Value) (w1 : Value) (th : Int32) (p0 : Int32) (p1 : Int32) (p2 : Int32) (p3 : Int32) : Met l yX10_sweep (pw_ws yX10_sweep cX10_sweep 12 (some .int)) ({ frames := 3, cells := 0, slots := 0, locals := 63 } : Room) (va_Pc [.ref h0, .int p0, .int p1, .int p2, .int p3] (fun U => U.heap.size = sz ∧ va_P (dC, dI) vwCl [(h0, .inr (15, [.ref a, v1, v2, v3, v4, .int th])), (a, .inr (4, [w0, w1, .int 0]))] U.heap ∧ va_K (dC, dI) vwCl [] U ∧ va_D (fun _ => True) [(h0, .inr (15, [.ref a, v1, v2, v3, v4, .int th])), (a, .inr (4, [w0, w1, .int 0]))])) (va_Qi (fun (r : Int32) (_ : Unit) => r = 0) (fun (_ : Unit) (t : State) => va_P (dC, dI) vwCl [(h0, .inr (15, [.ref a, v1, v2, v3, v4, .int 1])), (a, .inr (4, [w0, w1, .int 0]))] t.heap ∧ va_K (dC, dI) vwCl [] t ∧ va_D (va_A [(h0, .inr (15, [.ref a, v1, v2, v3, v4, .int th])), (a, .inr (4, [w0, w1, .int 0]))] sz) [(h0, .inr (15, [.ref a, v1, v2, v3, v4, .int 1])), (a, .inr (4, [w0, w1, .int 0]))]) (va_A [(h0, .inr (15, [.ref a, v1, v2, v3, v4, .int th])), (a, .inr (4, [w0, w1, .int 0]))] sz)) 0 0 (va_A [(h0, .inr (15, [.ref a, v1, v2, v3, v4, .int th])), (a, .inr (4, [w0, w1, .int 0]))] sz) := by
  refine Met.ofW (cc := cX10_sweep) (maxL := 12) (ret := (some .int)) (by decide) rfl ?_
  intro p e s m args below meth c s₁ B hml hv
  obtain ⟨rfl, hsz, hP, hK, hD0⟩ := hv
  have hx := B.exec
  have hb := B.bytes
  have hr := B.returns
  have hts0 := atoms_spec (ws := (pw_ws yX10_sweep cX10_sweep 12 (some .int))) B.pre
  have hts : ∀ w ∈ pw_all, w.before _ s = true := fun w h => hts0 w (List.mem_cons_of_mem _ h)
  have hown : s.vm.findClass RX10 = some m.cls := findClass_of_methodNamed B.named
  have hlocks := B.notSynchronized
  subst hsz
  have hD := hD0.self (sz := s.heap.size)
  generalize hAe : va_A [(h0, .inr (15, [.ref a, v1, v2, v3, v4, .int th])), (a, .inr (4, [w0, w1, .int 0]))] s.heap.size = A at hD ⊢
  have hA : ∀ q : Nat, s.heap.size ≤ q → A q := fun q h => by rw [← hAe]; exact Or.inr h
  have hS : va_S A s.heap s.heap [] := va_S.rf
  have hP : va_P (dC, dI) vwCl [(h0, .inr (15, [.ref a, v1, v2, v3, v4, .int th])), (a, .inr (4, [w0, w1, .int 0]))] s.heap := hP
  have hl := lv_entry ([.ref h0, .int p0, .int p1, .int p2, .int p3]) (n := 12) (Nat.le_of_ble_eq_true rfl)
  rw [lg_entry_eq]
  generalize (lg_sl ([.ref h0, .int p0, .int p1, .int p2, .int p3]) ++ List.replicate (12 - (lg_sl ([.ref h0, .int p0, .int p1, .int p2, .int p3])).length) Slot.unset).toArray = ls at hl ⊢
  have hl : lv_has ls 12 [(0, .ref h0), (1, .int p0), (2, .int p1), (3, .int p2), (4, .int p3)] := hl
  skip
  refine lv_aload_n hx hb dX10_sweep_0 rfl (lv_at hl 0 rfl) ?_
  refine lv_aload_n hx hb dX10_sweep_1 rfl (lv_at hl 0 rfl) ?_
  refine lv_iload_n hx hb dX10_sweep_2 rfl (lv_at hl 1 rfl) ?_
  have hPc := hP.sub (ws' := [(h0, .inr (15, [.ref a, v1, v2, v3, v4, .int th])), (a, .inr (4, [w0, w1, .int 0]))]) [0, 1] rfl
  have hDc := hD.sub (ws' := [(h0, .inr (15, [.ref a, v1, v2, v3, v4, .int th])), (a, .inr (4, [w0, w1, .int 0]))]) [0, 1] (by decide) rfl
  have hKc := hK.sub (tys' := []) [] rfl
  have hFc := va_free (wc := [(h0, .inr (15, [.ref a, v1, v2, v3, v4, .int th])), (a, .inr (4, [w0, w1, .int 0]))]) hD hS hA [0, 1] rfl
  refine va_calli (va_runV (As := [.int p0]) (rest := [.ref h0]) ⟨hx, hb, hml, hown, hts⟩ (n_isNoStructure l dC dI s.heap.size h0 a v1 v2 v3 v4 (.int th) w0 w1 p0) (cwV 1 hts (pw_V q1295 q1297 q20 q49 q1298) rfl rfl rfl (by decide +kernel) ⟨(Nat.le_of_ble_eq_true rfl), (Nat.le_of_ble_eq_true rfl)⟩) ⟨fun a U g mk q => by obtain ⟨q0, q1, qP, qK, qD⟩ := q; exact ⟨q0, q1, qP, va_K.moved (u := U) (U := U.calling g mk a) (Vm.Alike.refl U.vm) qK, qD⟩, va_recv hKc hPc (ci := 15) (q0 := 0) rfl rfl, fun U hU hW => ⟨rfl, by rw [hU], by rw [hU]; exact hPc, va_K.moved hW.alike hKc, hDc.weaken (fun _ _ _ _ => trivial)⟩⟩ rfl rfl hl.1 rfl (lv_room (Nat.le_of_ble_eq_true rfl)) dX10_sweep_3 ⟨(Nat.le_of_ble_eq_true rfl), (Nat.le_of_ble_eq_true rfl)⟩) hS (fun q _ h => hFc q h) hFc (fun r_284 u t H1 locs ht hvm hw hB hz1 hk1 hS => ?_)
  obtain ⟨hP1, hK1, hD1⟩ := hB
  rw [ht] at hP1
  have hK1 := va_K.moved hvm.symm hK1
  obtain ⟨hP, hD⟩ := va_join (wr := []) (w1 := [(h0, .inr (15, [.ref a, v1, v2, v3, v4, .int th])), (a, .inr (4, [w0, w1, .int 0]))]) hP hD [0, 1] [] rfl rfl (by decide) (by decide) hk1 hFc hP1 hD1
  have hK := (hK.sub (tys' := []) [] rfl).app hK1
  generalize H1 = H at hP hS ⊢
  have hP : va_P (dC, dI) vwCl [(h0, .inr (15, [.ref a, v1, v2, v3, v4, .int th])), (a, .inr (4, [w0, w1, .int 0]))] H := hP
  have hD : va_D A [(h0, .inr (15, [.ref a, v1, v2, v3, v4, .int th])), (a, .inr (4, [w0, w1, .int 0]))] := hD
  have hK : va_K (dC, dI) vwCl [] s := hK
  refine W.widen (k := 0) (n := 0) (Nat.le_of_ble_eq_true rfl) (Nat.le_of_ble_eq_true rfl) ?_
  have hw : r_284 = 1 := hw
  subst hw
  refine lv_iconst (v := 1) hx hb dX10_sweep_6 (by decide) ?_
  have hPc := hP.sub (ws' := [(h0, .inr (15, [.ref a, v1, v2, v3, v4, .int th]))]) [0] rfl
  have hDc := hD.sub (ws' := [(h0, .inr (15, [.ref a, v1, v2, v3, v4, .int th]))]) [0] (by decide) rfl
  have hKc := hK.sub (tys' := []) [] rfl
  have hFc := va_free (wc := [(h0, .inr (15, [.ref a, v1, v2, v3, v4, .int th]))]) hD hS hA [0] rfl
  refine va_calli (va_runV (As := [.int 1, .int 1]) (rest := []) ⟨hx, hb, hml, hown, hts⟩ (n_isThrown1 l dC dI H.size h0 (.ref a) v1 v2 v3 v4 th 1) (cwV 2 hts (pw_V q1253 q1255 q19 q49 q1256) rfl rfl rfl (by decide +kernel) ⟨(Nat.le_of_ble_eq_true rfl), (Nat.le_of_ble_eq_true rfl)⟩) ⟨fun a U g mk q => by obtain ⟨q0, q1, qP, qK, qD⟩ := q; exact ⟨q0, q1, qP, va_K.moved (u := U) (U := U.calling g mk a) (Vm.Alike.refl U.vm) qK, qD⟩, va_recv hKc hPc (ci := 15) (q0 := 0) rfl rfl, fun U hU hW => ⟨rfl, by rw [hU], by rw [hU]; exact hPc, va_K.moved hW.alike hKc, hDc.weaken (fun _ _ _ _ => trivial)⟩⟩ rfl rfl hl.1 rfl (lv_room (Nat.le_of_ble_eq_true rfl)) dX10_sweep_7 ⟨(Nat.le_of_ble_eq_true rfl), (Nat.le_of_ble_eq_true rfl)⟩) hS (fun q _ h => hFc q h) hFc (fun r_285 u t H1 locs ht hvm hw hB hz1 hk1 hS => ?_)
  obtain ⟨hP1, hK1, hD1⟩ := hB
  rw [ht] at hP1
  have hK1 := va_K.moved hvm.symm hK1
  obtain ⟨hP, hD⟩ := va_join (wr := [(a, .inr (4, [w0, w1, .int 0]))]) (w1 := [(h0, .inr (15, [.ref a, v1, v2, v3, v4, .int 1]))]) hP hD [0] [1] rfl rfl (by decide) (by decide) hk1 hFc hP1 hD1
  have hK := (hK.sub (tys' := []) [] rfl).app hK1
  generalize H1 = H at hP hS ⊢
  have hP : va_P (dC, dI) vwCl [(a, .inr (4, [w0, w1, .int 0])), (h0, .inr (15, [.ref a, v1, v2, v3, v4, .int 1]))] H := hP
  have hD : va_D A [(a, .inr (4, [w0, w1, .int 0])), (h0, .inr (15, [.ref a, v1, v2, v3, v4, .int 1]))] := hD
  have hK : va_K (dC, dI) vwCl [] s := hK
  refine W.widen (k := 0) (n := 0) (Nat.le_of_ble_eq_true rfl) (Nat.le_of_ble_eq_true rfl) ?_
  have hw : r_285 = 1 := hw
  subst hw
  refine lv_if_ne (tgt := 70) hx hb dX10_sweep_10 (by decide) (fun c_286 => ?_) (fun c_286 => absurd c_286 (by decide))
  refine lv_iconst (v := 0) hx hb dX10_sweep_70 (by decide) ?_
  have hP9 := hP.sub (ws' := [(h0, .inr (15, [.ref a, v1, v2, v3, v4, .int 1])), (a, .inr (4, [w0, w1, .int 0]))]) [1, 0] rfl
  have hD9 := hD.sub (ws' := [(h0, .inr (15, [.ref a, v1, v2, v3, v4, .int 1])), (a, .inr (4, [w0, w1, .int 0]))]) [1, 0] (by decide) rfl
  have hK9 := hK.sub (tys' := []) [] rfl
  refine W.widen (k := 0) (n := 0) (Nat.le_of_ble_eq_true rfl) (Nat.le_of_ble_eq_true rfl) ?_
  exact W.iret (v := 0) hx hb hr (fun t ht hW => ⟨⟨0, (), rfl, rfl, ⟨by rw [ht]; exact hP9, va_K.moved hW.alike hK9, hD9⟩⟩, hS.F ht⟩) hS.2.2 dX10_sweep_71
set_option maxHeartbeats 4000000 in
set_option maxRecDepth 100000 in
theorem y_shock (l : Launch) (dC : Nat → ClassId) (dI : Nat → Nat → Nat) (sz : Nat) (h0 : Nat) (a : Nat) (v1 : Value) (v2 : Value) (v3 : Value) (v4 : Value) (w0 : Value) (w1 : Value) (th : Int32) (p0 : Int32) : Met l yX10_shock (pw_ws yX10_shock cX10_shock 8 (some .int)) ({ frames := 3, cells := 0, slots := 0, locals := 63 } : Room) (va_Pc [.ref h0, .int p0] (fun U => U.heap.size = sz ∧ va_P (dC, dI) vwCl [(h0, .inr (15, [.ref a, v1, v2, v3, v4, .int th])), (a, .inr (4, [w0, w1, .int 0]))] U.heap ∧ va_K (dC, dI) vwCl [] U ∧ va_D (fun _ => True) [(h0, .inr (15, [.ref a, v1, v2, v3, v4, .int th])), (a, .inr (4, [w0, w1, .int 0]))])) (va_Qi (fun (r : Int32) (_ : Unit) => r = 0) (fun (_ : Unit) (t : State) => va_P (dC, dI) vwCl [(h0, .inr (15, [.ref a, v1, v2, v3, v4, .int 1])), (a, .inr (4, [w0, w1, .int 0]))] t.heap ∧ va_K (dC, dI) vwCl [] t ∧ va_D (va_A [(h0, .inr (15, [.ref a, v1, v2, v3, v4, .int th])), (a, .inr (4, [w0, w1, .int 0]))] sz) [(h0, .inr (15, [.ref a, v1, v2, v3, v4, .int 1])), (a, .inr (4, [w0, w1, .int 0]))]) (va_A [(h0, .inr (15, [.ref a, v1, v2, v3, v4, .int th])), (a, .inr (4, [w0, w1, .int 0]))] sz)) 0 0 (va_A [(h0, .inr (15, [.ref a, v1, v2, v3, v4, .int th])), (a, .inr (4, [w0, w1, .int 0]))] sz) := by
  refine Met.ofW (cc := cX10_shock) (maxL := 8) (ret := (some .int)) (by decide) rfl ?_
  intro p e s m args below meth c s₁ B hml hv
  obtain ⟨rfl, hsz, hP, hK, hD0⟩ := hv
  have hx := B.exec
  have hb := B.bytes
  have hr := B.returns
  have hts0 := atoms_spec (ws := (pw_ws yX10_shock cX10_shock 8 (some .int))) B.pre
  have hts : ∀ w ∈ pw_all, w.before _ s = true := fun w h => hts0 w (List.mem_cons_of_mem _ h)
  have hown : s.vm.findClass RX10 = some m.cls := findClass_of_methodNamed B.named
  have hlocks := B.notSynchronized
  subst hsz
  have hD := hD0.self (sz := s.heap.size)
  generalize hAe : va_A [(h0, .inr (15, [.ref a, v1, v2, v3, v4, .int th])), (a, .inr (4, [w0, w1, .int 0]))] s.heap.size = A at hD ⊢
  have hA : ∀ q : Nat, s.heap.size ≤ q → A q := fun q h => by rw [← hAe]; exact Or.inr h
  have hS : va_S A s.heap s.heap [] := va_S.rf
  have hP : va_P (dC, dI) vwCl [(h0, .inr (15, [.ref a, v1, v2, v3, v4, .int th])), (a, .inr (4, [w0, w1, .int 0]))] s.heap := hP
  have hl := lv_entry ([.ref h0, .int p0]) (n := 8) (Nat.le_of_ble_eq_true rfl)
  rw [lg_entry_eq]
  generalize (lg_sl ([.ref h0, .int p0]) ++ List.replicate (8 - (lg_sl ([.ref h0, .int p0])).length) Slot.unset).toArray = ls at hl ⊢
  have hl : lv_has ls 8 [(0, .ref h0), (1, .int p0)] := hl
  skip
  refine lv_aload_n hx hb dX10_shock_0 rfl (lv_at hl 0 rfl) ?_
  refine lv_aload_n hx hb dX10_shock_1 rfl (lv_at hl 0 rfl) ?_
  refine lv_iload_n hx hb dX10_shock_2 rfl (lv_at hl 1 rfl) ?_
  have hPc := hP.sub (ws' := [(h0, .inr (15, [.ref a, v1, v2, v3, v4, .int th])), (a, .inr (4, [w0, w1, .int 0]))]) [0, 1] rfl
  have hDc := hD.sub (ws' := [(h0, .inr (15, [.ref a, v1, v2, v3, v4, .int th])), (a, .inr (4, [w0, w1, .int 0]))]) [0, 1] (by decide) rfl
  have hKc := hK.sub (tys' := []) [] rfl
  have hFc := va_free (wc := [(h0, .inr (15, [.ref a, v1, v2, v3, v4, .int th])), (a, .inr (4, [w0, w1, .int 0]))]) hD hS hA [0, 1] rfl
  refine va_calli (va_runV (As := [.int p0]) (rest := [.ref h0]) ⟨hx, hb, hml, hown, hts⟩ (n_isNoStructure l dC dI s.heap.size h0 a v1 v2 v3 v4 (.int th) w0 w1 p0) (cwV 1 hts (pw_V q1295 q1297 q20 q49 q1298) rfl rfl rfl (by decide +kernel) ⟨(Nat.le_of_ble_eq_true rfl), (Nat.le_of_ble_eq_true rfl)⟩) ⟨fun a U g mk q => by obtain ⟨q0, q1, qP, qK, qD⟩ := q; exact ⟨q0, q1, qP, va_K.moved (u := U) (U := U.calling g mk a) (Vm.Alike.refl U.vm) qK, qD⟩, va_recv hKc hPc (ci := 15) (q0 := 0) rfl rfl, fun U hU hW => ⟨rfl, by rw [hU], by rw [hU]; exact hPc, va_K.moved hW.alike hKc, hDc.weaken (fun _ _ _ _ => trivial)⟩⟩ rfl rfl hl.1 rfl (lv_room (Nat.le_of_ble_eq_true rfl)) dX10_shock_3 ⟨(Nat.le_of_ble_eq_true rfl), (Nat.le_of_ble_eq_true rfl)⟩) hS (fun q _ h => hFc q h) hFc (fun r_287 u t H1 locs ht hvm hw hB hz1 hk1 hS => ?_)
  obtain ⟨hP1, hK1, hD1⟩ := hB
  rw [ht] at hP1
  have hK1 := va_K.moved hvm.symm hK1
  obtain ⟨hP, hD⟩ := va_join (wr := []) (w1 := [(h0, .inr (15, [.ref a, v1, v2, v3, v4, .int th])), (a, .inr (4, [w0, w1, .int 0]))]) hP hD [0, 1] [] rfl rfl (by decide) (by decide) hk1 hFc hP1 hD1
  have hK := (hK.sub (tys' := []) [] rfl).app hK1
  generalize H1 = H at hP hS ⊢
  have hP : va_P (dC, dI) vwCl [(h0, .inr (15, [.ref a, v1, v2, v3, v4, .int th])), (a, .inr (4, [w0, w1, .int 0]))] H := hP
  have hD : va_D A [(h0, .inr (15, [.ref a, v1, v2, v3, v4, .int th])), (a, .inr (4, [w0, w1, .int 0]))] := hD
  have hK : va_K (dC, dI) vwCl [] s := hK
  refine W.widen (k := 0) (n := 0) (Nat.le_of_ble_eq_true rfl) (Nat.le_of_ble_eq_true rfl) ?_
  have hw : r_287 = 1 := hw
  subst hw
  refine lv_iconst (v := 1) hx hb dX10_shock_6 (by decide) ?_
  have hPc := hP.sub (ws' := [(h0, .inr (15, [.ref a, v1, v2, v3, v4, .int th]))]) [0] rfl
  have hDc := hD.sub (ws' := [(h0, .inr (15, [.ref a, v1, v2, v3, v4, .int th]))]) [0] (by decide) rfl
  have hKc := hK.sub (tys' := []) [] rfl
  have hFc := va_free (wc := [(h0, .inr (15, [.ref a, v1, v2, v3, v4, .int th]))]) hD hS hA [0] rfl
  refine va_calli (va_runV (As := [.int 1, .int 1]) (rest := []) ⟨hx, hb, hml, hown, hts⟩ (n_isThrown1 l dC dI H.size h0 (.ref a) v1 v2 v3 v4 th 1) (cwV 2 hts (pw_V q1253 q1255 q19 q49 q1256) rfl rfl rfl (by decide +kernel) ⟨(Nat.le_of_ble_eq_true rfl), (Nat.le_of_ble_eq_true rfl)⟩) ⟨fun a U g mk q => by obtain ⟨q0, q1, qP, qK, qD⟩ := q; exact ⟨q0, q1, qP, va_K.moved (u := U) (U := U.calling g mk a) (Vm.Alike.refl U.vm) qK, qD⟩, va_recv hKc hPc (ci := 15) (q0 := 0) rfl rfl, fun U hU hW => ⟨rfl, by rw [hU], by rw [hU]; exact hPc, va_K.moved hW.alike hKc, hDc.weaken (fun _ _ _ _ => trivial)⟩⟩ rfl rfl hl.1 rfl (lv_room (Nat.le_of_ble_eq_true rfl)) dX10_shock_7 ⟨(Nat.le_of_ble_eq_true rfl), (Nat.le_of_ble_eq_true rfl)⟩) hS (fun q _ h => hFc q h) hFc (fun r_288 u t H1 locs ht hvm hw hB hz1 hk1 hS => ?_)
  obtain ⟨hP1, hK1, hD1⟩ := hB
  rw [ht] at hP1
  have hK1 := va_K.moved hvm.symm hK1
  obtain ⟨hP, hD⟩ := va_join (wr := [(a, .inr (4, [w0, w1, .int 0]))]) (w1 := [(h0, .inr (15, [.ref a, v1, v2, v3, v4, .int 1]))]) hP hD [0] [1] rfl rfl (by decide) (by decide) hk1 hFc hP1 hD1
  have hK := (hK.sub (tys' := []) [] rfl).app hK1
  generalize H1 = H at hP hS ⊢
  have hP : va_P (dC, dI) vwCl [(a, .inr (4, [w0, w1, .int 0])), (h0, .inr (15, [.ref a, v1, v2, v3, v4, .int 1]))] H := hP
  have hD : va_D A [(a, .inr (4, [w0, w1, .int 0])), (h0, .inr (15, [.ref a, v1, v2, v3, v4, .int 1]))] := hD
  have hK : va_K (dC, dI) vwCl [] s := hK
  refine W.widen (k := 0) (n := 0) (Nat.le_of_ble_eq_true rfl) (Nat.le_of_ble_eq_true rfl) ?_
  have hw : r_288 = 1 := hw
  subst hw
  refine lv_if_ne (tgt := 44) hx hb dX10_shock_10 (by decide) (fun c_289 => ?_) (fun c_289 => absurd c_289 (by decide))
  refine lv_iconst (v := 0) hx hb dX10_shock_44 (by decide) ?_
  have hP9 := hP.sub (ws' := [(h0, .inr (15, [.ref a, v1, v2, v3, v4, .int 1])), (a, .inr (4, [w0, w1, .int 0]))]) [1, 0] rfl
  have hD9 := hD.sub (ws' := [(h0, .inr (15, [.ref a, v1, v2, v3, v4, .int 1])), (a, .inr (4, [w0, w1, .int 0]))]) [1, 0] (by decide) rfl
  have hK9 := hK.sub (tys' := []) [] rfl
  refine W.widen (k := 0) (n := 0) (Nat.le_of_ble_eq_true rfl) (Nat.le_of_ble_eq_true rfl) ?_
  exact W.iret (v := 0) hx hb hr (fun t ht hW => ⟨⟨0, (), rfl, rfl, ⟨by rw [ht]; exact hP9, va_K.moved hW.alike hK9, hD9⟩⟩, hS.F ht⟩) hS.2.2 dX10_shock_45
set_option maxHeartbeats 4000000 in
set_option maxRecDepth 100000 in
theorem y_setLife (l : Launch) (dC : Nat → ClassId) (dI : Nat → Nat → Nat) (sz : Nat) (h0 : Nat) (a : Nat) (v1 : Value) (v2 : Value) (v3 : Value) (v4 : Value) (w0 : Value) (w1 : Value) (th : Int32) (p0 : Int32) (p1 : Int32) : Met l yX10_setLife (pw_ws yX10_setLife cX10_setLife 4 (some .int)) ({ frames := 3, cells := 0, slots := 0, locals := 63 } : Room) (va_Pc [.ref h0, .int p0, .int p1] (fun U => U.heap.size = sz ∧ va_P (dC, dI) vwCl [(h0, .inr (15, [.ref a, v1, v2, v3, v4, .int th])), (a, .inr (4, [w0, w1, .int 0]))] U.heap ∧ va_K (dC, dI) vwCl [] U ∧ va_D (fun _ => True) [(h0, .inr (15, [.ref a, v1, v2, v3, v4, .int th])), (a, .inr (4, [w0, w1, .int 0]))])) (va_Qi (fun (r : Int32) (_ : Unit) => r = 0) (fun (_ : Unit) (t : State) => va_P (dC, dI) vwCl [(h0, .inr (15, [.ref a, v1, v2, v3, v4, .int 1])), (a, .inr (4, [w0, w1, .int 0]))] t.heap ∧ va_K (dC, dI) vwCl [] t ∧ va_D (va_A [(h0, .inr (15, [.ref a, v1, v2, v3, v4, .int th])), (a, .inr (4, [w0, w1, .int 0]))] sz) [(h0, .inr (15, [.ref a, v1, v2, v3, v4, .int 1])), (a, .inr (4, [w0, w1, .int 0]))]) (va_A [(h0, .inr (15, [.ref a, v1, v2, v3, v4, .int th])), (a, .inr (4, [w0, w1, .int 0]))] sz)) 0 0 (va_A [(h0, .inr (15, [.ref a, v1, v2, v3, v4, .int th])), (a, .inr (4, [w0, w1, .int 0]))] sz) := by
  refine Met.ofW (cc := cX10_setLife) (maxL := 4) (ret := (some .int)) (by decide) rfl ?_
  intro p e s m args below meth c s₁ B hml hv
  obtain ⟨rfl, hsz, hP, hK, hD0⟩ := hv
  have hx := B.exec
  have hb := B.bytes
  have hr := B.returns
  have hts0 := atoms_spec (ws := (pw_ws yX10_setLife cX10_setLife 4 (some .int))) B.pre
  have hts : ∀ w ∈ pw_all, w.before _ s = true := fun w h => hts0 w (List.mem_cons_of_mem _ h)
  have hown : s.vm.findClass RX10 = some m.cls := findClass_of_methodNamed B.named
  have hlocks := B.notSynchronized
  subst hsz
  have hD := hD0.self (sz := s.heap.size)
  generalize hAe : va_A [(h0, .inr (15, [.ref a, v1, v2, v3, v4, .int th])), (a, .inr (4, [w0, w1, .int 0]))] s.heap.size = A at hD ⊢
  have hA : ∀ q : Nat, s.heap.size ≤ q → A q := fun q h => by rw [← hAe]; exact Or.inr h
  have hS : va_S A s.heap s.heap [] := va_S.rf
  have hP : va_P (dC, dI) vwCl [(h0, .inr (15, [.ref a, v1, v2, v3, v4, .int th])), (a, .inr (4, [w0, w1, .int 0]))] s.heap := hP
  have hl := lv_entry ([.ref h0, .int p0, .int p1]) (n := 4) (Nat.le_of_ble_eq_true rfl)
  rw [lg_entry_eq]
  generalize (lg_sl ([.ref h0, .int p0, .int p1]) ++ List.replicate (4 - (lg_sl ([.ref h0, .int p0, .int p1])).length) Slot.unset).toArray = ls at hl ⊢
  have hl : lv_has ls 4 [(0, .ref h0), (1, .int p0), (2, .int p1)] := hl
  skip
  refine lv_aload_n hx hb dX10_setLife_0 rfl (lv_at hl 0 rfl) ?_
  refine lv_aload_n hx hb dX10_setLife_1 rfl (lv_at hl 0 rfl) ?_
  refine lv_iload_n hx hb dX10_setLife_2 rfl (lv_at hl 1 rfl) ?_
  have hPc := hP.sub (ws' := [(h0, .inr (15, [.ref a, v1, v2, v3, v4, .int th])), (a, .inr (4, [w0, w1, .int 0]))]) [0, 1] rfl
  have hDc := hD.sub (ws' := [(h0, .inr (15, [.ref a, v1, v2, v3, v4, .int th])), (a, .inr (4, [w0, w1, .int 0]))]) [0, 1] (by decide) rfl
  have hKc := hK.sub (tys' := []) [] rfl
  have hFc := va_free (wc := [(h0, .inr (15, [.ref a, v1, v2, v3, v4, .int th])), (a, .inr (4, [w0, w1, .int 0]))]) hD hS hA [0, 1] rfl
  refine va_calli (va_runV (As := [.int p0]) (rest := [.ref h0]) ⟨hx, hb, hml, hown, hts⟩ (n_isNoStructure l dC dI s.heap.size h0 a v1 v2 v3 v4 (.int th) w0 w1 p0) (cwV 1 hts (pw_V q1295 q1297 q20 q49 q1298) rfl rfl rfl (by decide +kernel) ⟨(Nat.le_of_ble_eq_true rfl), (Nat.le_of_ble_eq_true rfl)⟩) ⟨fun a U g mk q => by obtain ⟨q0, q1, qP, qK, qD⟩ := q; exact ⟨q0, q1, qP, va_K.moved (u := U) (U := U.calling g mk a) (Vm.Alike.refl U.vm) qK, qD⟩, va_recv hKc hPc (ci := 15) (q0 := 0) rfl rfl, fun U hU hW => ⟨rfl, by rw [hU], by rw [hU]; exact hPc, va_K.moved hW.alike hKc, hDc.weaken (fun _ _ _ _ => trivial)⟩⟩ rfl rfl hl.1 rfl (lv_room (Nat.le_of_ble_eq_true rfl)) dX10_setLife_3 ⟨(Nat.le_of_ble_eq_true rfl), (Nat.le_of_ble_eq_true rfl)⟩) hS (fun q _ h => hFc q h) hFc (fun r_290 u t H1 locs ht hvm hw hB hz1 hk1 hS => ?_)
  obtain ⟨hP1, hK1, hD1⟩ := hB
  rw [ht] at hP1
  have hK1 := va_K.moved hvm.symm hK1
  obtain ⟨hP, hD⟩ := va_join (wr := []) (w1 := [(h0, .inr (15, [.ref a, v1, v2, v3, v4, .int th])), (a, .inr (4, [w0, w1, .int 0]))]) hP hD [0, 1] [] rfl rfl (by decide) (by decide) hk1 hFc hP1 hD1
  have hK := (hK.sub (tys' := []) [] rfl).app hK1
  generalize H1 = H at hP hS ⊢
  have hP : va_P (dC, dI) vwCl [(h0, .inr (15, [.ref a, v1, v2, v3, v4, .int th])), (a, .inr (4, [w0, w1, .int 0]))] H := hP
  have hD : va_D A [(h0, .inr (15, [.ref a, v1, v2, v3, v4, .int th])), (a, .inr (4, [w0, w1, .int 0]))] := hD
  have hK : va_K (dC, dI) vwCl [] s := hK
  refine W.widen (k := 0) (n := 0) (Nat.le_of_ble_eq_true rfl) (Nat.le_of_ble_eq_true rfl) ?_
  have hw : r_290 = 1 := hw
  subst hw
  refine lv_iconst (v := 1) hx hb dX10_setLife_6 (by decide) ?_
  have hPc := hP.sub (ws' := [(h0, .inr (15, [.ref a, v1, v2, v3, v4, .int th]))]) [0] rfl
  have hDc := hD.sub (ws' := [(h0, .inr (15, [.ref a, v1, v2, v3, v4, .int th]))]) [0] (by decide) rfl
  have hKc := hK.sub (tys' := []) [] rfl
  have hFc := va_free (wc := [(h0, .inr (15, [.ref a, v1, v2, v3, v4, .int th]))]) hD hS hA [0] rfl
  refine va_calli (va_runV (As := [.int 1, .int 1]) (rest := []) ⟨hx, hb, hml, hown, hts⟩ (n_isThrown1 l dC dI H.size h0 (.ref a) v1 v2 v3 v4 th 1) (cwV 2 hts (pw_V q1253 q1255 q19 q49 q1256) rfl rfl rfl (by decide +kernel) ⟨(Nat.le_of_ble_eq_true rfl), (Nat.le_of_ble_eq_true rfl)⟩) ⟨fun a U g mk q => by obtain ⟨q0, q1, qP, qK, qD⟩ := q; exact ⟨q0, q1, qP, va_K.moved (u := U) (U := U.calling g mk a) (Vm.Alike.refl U.vm) qK, qD⟩, va_recv hKc hPc (ci := 15) (q0 := 0) rfl rfl, fun U hU hW => ⟨rfl, by rw [hU], by rw [hU]; exact hPc, va_K.moved hW.alike hKc, hDc.weaken (fun _ _ _ _ => trivial)⟩⟩ rfl rfl hl.1 rfl (lv_room (Nat.le_of_ble_eq_true rfl)) dX10_setLife_7 ⟨(Nat.le_of_ble_eq_true rfl), (Nat.le_of_ble_eq_true rfl)⟩) hS (fun q _ h => hFc q h) hFc (fun r_291 u t H1 locs ht hvm hw hB hz1 hk1 hS => ?_)
  obtain ⟨hP1, hK1, hD1⟩ := hB
  rw [ht] at hP1
  have hK1 := va_K.moved hvm.symm hK1
  obtain ⟨hP, hD⟩ := va_join (wr := [(a, .inr (4, [w0, w1, .int 0]))]) (w1 := [(h0, .inr (15, [.ref a, v1, v2, v3, v4, .int 1]))]) hP hD [0] [1] rfl rfl (by decide) (by decide) hk1 hFc hP1 hD1
  have hK := (hK.sub (tys' := []) [] rfl).app hK1
  generalize H1 = H at hP hS ⊢
  have hP : va_P (dC, dI) vwCl [(a, .inr (4, [w0, w1, .int 0])), (h0, .inr (15, [.ref a, v1, v2, v3, v4, .int 1]))] H := hP
  have hD : va_D A [(a, .inr (4, [w0, w1, .int 0])), (h0, .inr (15, [.ref a, v1, v2, v3, v4, .int 1]))] := hD
  have hK : va_K (dC, dI) vwCl [] s := hK
  refine W.widen (k := 0) (n := 0) (Nat.le_of_ble_eq_true rfl) (Nat.le_of_ble_eq_true rfl) ?_
  have hw : r_291 = 1 := hw
  subst hw
  refine lv_if_ne (tgt := 37) hx hb dX10_setLife_10 (by decide) (fun c_292 => ?_) (fun c_292 => absurd c_292 (by decide))
  refine lv_iconst (v := 0) hx hb dX10_setLife_37 (by decide) ?_
  have hP9 := hP.sub (ws' := [(h0, .inr (15, [.ref a, v1, v2, v3, v4, .int 1])), (a, .inr (4, [w0, w1, .int 0]))]) [1, 0] rfl
  have hD9 := hD.sub (ws' := [(h0, .inr (15, [.ref a, v1, v2, v3, v4, .int 1])), (a, .inr (4, [w0, w1, .int 0]))]) [1, 0] (by decide) rfl
  have hK9 := hK.sub (tys' := []) [] rfl
  refine W.widen (k := 0) (n := 0) (Nat.le_of_ble_eq_true rfl) (Nat.le_of_ble_eq_true rfl) ?_
  exact W.iret (v := 0) hx hb hr (fun t ht hW => ⟨⟨0, (), rfl, rfl, ⟨by rw [ht]; exact hP9, va_K.moved hW.alike hK9, hD9⟩⟩, hS.F ht⟩) hS.2.2 dX10_setLife_38
set_option maxHeartbeats 4000000 in
set_option maxRecDepth 100000 in
theorem y_getDamage (l : Launch) (dC : Nat → ClassId) (dI : Nat → Nat → Nat) (sz : Nat) (h0 : Nat) (a : Nat) (v1 : Value) (v2 : Value) (v3 : Value) (v4 : Value) (w0 : Value) (w1 : Value) (th : Int32) (p0 : Int32) : Met l yX10_getDamage (pw_ws yX10_getDamage cX10_getDamage 2 (some .long)) ({ frames := 3, cells := 0, slots := 0, locals := 63 } : Room) (va_Pc [.ref h0, .int p0] (fun U => U.heap.size = sz ∧ va_P (dC, dI) vwCl [(h0, .inr (15, [.ref a, v1, v2, v3, v4, .int th])), (a, .inr (4, [w0, w1, .int 0]))] U.heap ∧ va_K (dC, dI) vwCl [] U ∧ va_D (fun _ => True) [(h0, .inr (15, [.ref a, v1, v2, v3, v4, .int th])), (a, .inr (4, [w0, w1, .int 0]))])) (va_Ql (fun (r : Int64) (_ : Unit) => r = 0) (fun (_ : Unit) (t : State) => va_P (dC, dI) vwCl [(h0, .inr (15, [.ref a, v1, v2, v3, v4, .int 1])), (a, .inr (4, [w0, w1, .int 0]))] t.heap ∧ va_K (dC, dI) vwCl [] t ∧ va_D (va_A [(h0, .inr (15, [.ref a, v1, v2, v3, v4, .int th])), (a, .inr (4, [w0, w1, .int 0]))] sz) [(h0, .inr (15, [.ref a, v1, v2, v3, v4, .int 1])), (a, .inr (4, [w0, w1, .int 0]))]) (va_A [(h0, .inr (15, [.ref a, v1, v2, v3, v4, .int th])), (a, .inr (4, [w0, w1, .int 0]))] sz)) 0 0 (va_A [(h0, .inr (15, [.ref a, v1, v2, v3, v4, .int th])), (a, .inr (4, [w0, w1, .int 0]))] sz) := by
  refine Met.ofW (cc := cX10_getDamage) (maxL := 2) (ret := (some .long)) (by decide) rfl ?_
  intro p e s m args below meth c s₁ B hml hv
  obtain ⟨rfl, hsz, hP, hK, hD0⟩ := hv
  have hx := B.exec
  have hb := B.bytes
  have hr := B.returns
  have hts0 := atoms_spec (ws := (pw_ws yX10_getDamage cX10_getDamage 2 (some .long))) B.pre
  have hts : ∀ w ∈ pw_all, w.before _ s = true := fun w h => hts0 w (List.mem_cons_of_mem _ h)
  have hown : s.vm.findClass RX10 = some m.cls := findClass_of_methodNamed B.named
  have hlocks := B.notSynchronized
  subst hsz
  have hD := hD0.self (sz := s.heap.size)
  generalize hAe : va_A [(h0, .inr (15, [.ref a, v1, v2, v3, v4, .int th])), (a, .inr (4, [w0, w1, .int 0]))] s.heap.size = A at hD ⊢
  have hA : ∀ q : Nat, s.heap.size ≤ q → A q := fun q h => by rw [← hAe]; exact Or.inr h
  have hS : va_S A s.heap s.heap [] := va_S.rf
  have hP : va_P (dC, dI) vwCl [(h0, .inr (15, [.ref a, v1, v2, v3, v4, .int th])), (a, .inr (4, [w0, w1, .int 0]))] s.heap := hP
  have hl := lv_entry ([.ref h0, .int p0]) (n := 2) (Nat.le_of_ble_eq_true rfl)
  rw [lg_entry_eq]
  generalize (lg_sl ([.ref h0, .int p0]) ++ List.replicate (2 - (lg_sl ([.ref h0, .int p0])).length) Slot.unset).toArray = ls at hl ⊢
  have hl : lv_has ls 2 [(0, .ref h0), (1, .int p0)] := hl
  skip
  refine lv_aload_n hx hb dX10_getDamage_0 rfl (lv_at hl 0 rfl) ?_
  refine lv_aload_n hx hb dX10_getDamage_1 rfl (lv_at hl 0 rfl) ?_
  refine lv_iload_n hx hb dX10_getDamage_2 rfl (lv_at hl 1 rfl) ?_
  have hPc := hP.sub (ws' := [(h0, .inr (15, [.ref a, v1, v2, v3, v4, .int th])), (a, .inr (4, [w0, w1, .int 0]))]) [0, 1] rfl
  have hDc := hD.sub (ws' := [(h0, .inr (15, [.ref a, v1, v2, v3, v4, .int th])), (a, .inr (4, [w0, w1, .int 0]))]) [0, 1] (by decide) rfl
  have hKc := hK.sub (tys' := []) [] rfl
  have hFc := va_free (wc := [(h0, .inr (15, [.ref a, v1, v2, v3, v4, .int th])), (a, .inr (4, [w0, w1, .int 0]))]) hD hS hA [0, 1] rfl
  refine va_calli (va_runV (As := [.int p0]) (rest := [.ref h0]) ⟨hx, hb, hml, hown, hts⟩ (n_isNoStructure l dC dI s.heap.size h0 a v1 v2 v3 v4 (.int th) w0 w1 p0) (cwV 1 hts (pw_V q1295 q1297 q20 q49 q1298) rfl rfl rfl (by decide +kernel) ⟨(Nat.le_of_ble_eq_true rfl), (Nat.le_of_ble_eq_true rfl)⟩) ⟨fun a U g mk q => by obtain ⟨q0, q1, qP, qK, qD⟩ := q; exact ⟨q0, q1, qP, va_K.moved (u := U) (U := U.calling g mk a) (Vm.Alike.refl U.vm) qK, qD⟩, va_recv hKc hPc (ci := 15) (q0 := 0) rfl rfl, fun U hU hW => ⟨rfl, by rw [hU], by rw [hU]; exact hPc, va_K.moved hW.alike hKc, hDc.weaken (fun _ _ _ _ => trivial)⟩⟩ rfl rfl hl.1 rfl (lv_room (Nat.le_of_ble_eq_true rfl)) dX10_getDamage_3 ⟨(Nat.le_of_ble_eq_true rfl), (Nat.le_of_ble_eq_true rfl)⟩) hS (fun q _ h => hFc q h) hFc (fun r_293 u t H1 locs ht hvm hw hB hz1 hk1 hS => ?_)
  obtain ⟨hP1, hK1, hD1⟩ := hB
  rw [ht] at hP1
  have hK1 := va_K.moved hvm.symm hK1
  obtain ⟨hP, hD⟩ := va_join (wr := []) (w1 := [(h0, .inr (15, [.ref a, v1, v2, v3, v4, .int th])), (a, .inr (4, [w0, w1, .int 0]))]) hP hD [0, 1] [] rfl rfl (by decide) (by decide) hk1 hFc hP1 hD1
  have hK := (hK.sub (tys' := []) [] rfl).app hK1
  generalize H1 = H at hP hS ⊢
  have hP : va_P (dC, dI) vwCl [(h0, .inr (15, [.ref a, v1, v2, v3, v4, .int th])), (a, .inr (4, [w0, w1, .int 0]))] H := hP
  have hD : va_D A [(h0, .inr (15, [.ref a, v1, v2, v3, v4, .int th])), (a, .inr (4, [w0, w1, .int 0]))] := hD
  have hK : va_K (dC, dI) vwCl [] s := hK
  refine W.widen (k := 0) (n := 0) (Nat.le_of_ble_eq_true rfl) (Nat.le_of_ble_eq_true rfl) ?_
  have hw : r_293 = 1 := hw
  subst hw
  refine lv_iconst (v := 1) hx hb dX10_getDamage_6 (by decide) ?_
  have hPc := hP.sub (ws' := [(h0, .inr (15, [.ref a, v1, v2, v3, v4, .int th]))]) [0] rfl
  have hDc := hD.sub (ws' := [(h0, .inr (15, [.ref a, v1, v2, v3, v4, .int th]))]) [0] (by decide) rfl
  have hKc := hK.sub (tys' := []) [] rfl
  have hFc := va_free (wc := [(h0, .inr (15, [.ref a, v1, v2, v3, v4, .int th]))]) hD hS hA [0] rfl
  refine va_calli (va_runV (As := [.int 1, .int 1]) (rest := []) ⟨hx, hb, hml, hown, hts⟩ (n_isThrown1 l dC dI H.size h0 (.ref a) v1 v2 v3 v4 th 1) (cwV 2 hts (pw_V q1253 q1255 q19 q49 q1256) rfl rfl rfl (by decide +kernel) ⟨(Nat.le_of_ble_eq_true rfl), (Nat.le_of_ble_eq_true rfl)⟩) ⟨fun a U g mk q => by obtain ⟨q0, q1, qP, qK, qD⟩ := q; exact ⟨q0, q1, qP, va_K.moved (u := U) (U := U.calling g mk a) (Vm.Alike.refl U.vm) qK, qD⟩, va_recv hKc hPc (ci := 15) (q0 := 0) rfl rfl, fun U hU hW => ⟨rfl, by rw [hU], by rw [hU]; exact hPc, va_K.moved hW.alike hKc, hDc.weaken (fun _ _ _ _ => trivial)⟩⟩ rfl rfl hl.1 rfl (lv_room (Nat.le_of_ble_eq_true rfl)) dX10_getDamage_7 ⟨(Nat.le_of_ble_eq_true rfl), (Nat.le_of_ble_eq_true rfl)⟩) hS (fun q _ h => hFc q h) hFc (fun r_294 u t H1 locs ht hvm hw hB hz1 hk1 hS => ?_)
  obtain ⟨hP1, hK1, hD1⟩ := hB
  rw [ht] at hP1
  have hK1 := va_K.moved hvm.symm hK1
  obtain ⟨hP, hD⟩ := va_join (wr := [(a, .inr (4, [w0, w1, .int 0]))]) (w1 := [(h0, .inr (15, [.ref a, v1, v2, v3, v4, .int 1]))]) hP hD [0] [1] rfl rfl (by decide) (by decide) hk1 hFc hP1 hD1
  have hK := (hK.sub (tys' := []) [] rfl).app hK1
  generalize H1 = H at hP hS ⊢
  have hP : va_P (dC, dI) vwCl [(a, .inr (4, [w0, w1, .int 0])), (h0, .inr (15, [.ref a, v1, v2, v3, v4, .int 1]))] H := hP
  have hD : va_D A [(a, .inr (4, [w0, w1, .int 0])), (h0, .inr (15, [.ref a, v1, v2, v3, v4, .int 1]))] := hD
  have hK : va_K (dC, dI) vwCl [] s := hK
  refine W.widen (k := 0) (n := 0) (Nat.le_of_ble_eq_true rfl) (Nat.le_of_ble_eq_true rfl) ?_
  have hw : r_294 = 1 := hw
  subst hw
  refine lv_if_eq (tgt := 17) hx hb dX10_getDamage_10 (by decide) (fun c_295 => absurd c_295 (by decide)) (fun c_295 => ?_)
  refine lv_lconst (v := 0) hx hb dX10_getDamage_13 (by decide) ?_
  refine lv_goto (tgt := 31) hx hb dX10_getDamage_14 (by decide) ?_
  have hP9 := hP.sub (ws' := [(h0, .inr (15, [.ref a, v1, v2, v3, v4, .int 1])), (a, .inr (4, [w0, w1, .int 0]))]) [1, 0] rfl
  have hD9 := hD.sub (ws' := [(h0, .inr (15, [.ref a, v1, v2, v3, v4, .int 1])), (a, .inr (4, [w0, w1, .int 0]))]) [1, 0] (by decide) rfl
  have hK9 := hK.sub (tys' := []) [] rfl
  refine W.widen (k := 0) (n := 0) (Nat.le_of_ble_eq_true rfl) (Nat.le_of_ble_eq_true rfl) ?_
  exact W.lret (v := 0) hx hb hr (fun t ht hW => ⟨⟨0, (), rfl, rfl, ⟨by rw [ht]; exact hP9, va_K.moved hW.alike hK9, hD9⟩⟩, hS.F ht⟩) hS.2.2 dX10_getDamage_31
set_option maxHeartbeats 4000000 in
set_option maxRecDepth 100000 in
theorem y_getCracks (l : Launch) (dC : Nat → ClassId) (dI : Nat → Nat → Nat) (sz : Nat) (h0 : Nat) (a : Nat) (v1 : Value) (v2 : Value) (v3 : Value) (v4 : Value) (w0 : Value) (w1 : Value) (th : Int32) (p0 : Int32) : Met l yX10_getCracks (pw_ws yX10_getCracks cX10_getCracks 2 (some .int)) ({ frames := 3, cells := 0, slots := 0, locals := 63 } : Room) (va_Pc [.ref h0, .int p0] (fun U => U.heap.size = sz ∧ va_P (dC, dI) vwCl [(h0, .inr (15, [.ref a, v1, v2, v3, v4, .int th])), (a, .inr (4, [w0, w1, .int 0]))] U.heap ∧ va_K (dC, dI) vwCl [] U ∧ va_D (fun _ => True) [(h0, .inr (15, [.ref a, v1, v2, v3, v4, .int th])), (a, .inr (4, [w0, w1, .int 0]))])) (va_Qi (fun (r : Int32) (_ : Unit) => r = 0) (fun (_ : Unit) (t : State) => va_P (dC, dI) vwCl [(h0, .inr (15, [.ref a, v1, v2, v3, v4, .int 1])), (a, .inr (4, [w0, w1, .int 0]))] t.heap ∧ va_K (dC, dI) vwCl [] t ∧ va_D (va_A [(h0, .inr (15, [.ref a, v1, v2, v3, v4, .int th])), (a, .inr (4, [w0, w1, .int 0]))] sz) [(h0, .inr (15, [.ref a, v1, v2, v3, v4, .int 1])), (a, .inr (4, [w0, w1, .int 0]))]) (va_A [(h0, .inr (15, [.ref a, v1, v2, v3, v4, .int th])), (a, .inr (4, [w0, w1, .int 0]))] sz)) 0 0 (va_A [(h0, .inr (15, [.ref a, v1, v2, v3, v4, .int th])), (a, .inr (4, [w0, w1, .int 0]))] sz) := by
  refine Met.ofW (cc := cX10_getCracks) (maxL := 2) (ret := (some .int)) (by decide) rfl ?_
  intro p e s m args below meth c s₁ B hml hv
  obtain ⟨rfl, hsz, hP, hK, hD0⟩ := hv
  have hx := B.exec
  have hb := B.bytes
  have hr := B.returns
  have hts0 := atoms_spec (ws := (pw_ws yX10_getCracks cX10_getCracks 2 (some .int))) B.pre
  have hts : ∀ w ∈ pw_all, w.before _ s = true := fun w h => hts0 w (List.mem_cons_of_mem _ h)
  have hown : s.vm.findClass RX10 = some m.cls := findClass_of_methodNamed B.named
  have hlocks := B.notSynchronized
  subst hsz
  have hD := hD0.self (sz := s.heap.size)
  generalize hAe : va_A [(h0, .inr (15, [.ref a, v1, v2, v3, v4, .int th])), (a, .inr (4, [w0, w1, .int 0]))] s.heap.size = A at hD ⊢
  have hA : ∀ q : Nat, s.heap.size ≤ q → A q := fun q h => by rw [← hAe]; exact Or.inr h
  have hS : va_S A s.heap s.heap [] := va_S.rf
  have hP : va_P (dC, dI) vwCl [(h0, .inr (15, [.ref a, v1, v2, v3, v4, .int th])), (a, .inr (4, [w0, w1, .int 0]))] s.heap := hP
  have hl := lv_entry ([.ref h0, .int p0]) (n := 2) (Nat.le_of_ble_eq_true rfl)
  rw [lg_entry_eq]
  generalize (lg_sl ([.ref h0, .int p0]) ++ List.replicate (2 - (lg_sl ([.ref h0, .int p0])).length) Slot.unset).toArray = ls at hl ⊢
  have hl : lv_has ls 2 [(0, .ref h0), (1, .int p0)] := hl
  skip
  refine lv_aload_n hx hb dX10_getCracks_0 rfl (lv_at hl 0 rfl) ?_
  refine lv_aload_n hx hb dX10_getCracks_1 rfl (lv_at hl 0 rfl) ?_
  refine lv_iload_n hx hb dX10_getCracks_2 rfl (lv_at hl 1 rfl) ?_
  have hPc := hP.sub (ws' := [(h0, .inr (15, [.ref a, v1, v2, v3, v4, .int th])), (a, .inr (4, [w0, w1, .int 0]))]) [0, 1] rfl
  have hDc := hD.sub (ws' := [(h0, .inr (15, [.ref a, v1, v2, v3, v4, .int th])), (a, .inr (4, [w0, w1, .int 0]))]) [0, 1] (by decide) rfl
  have hKc := hK.sub (tys' := []) [] rfl
  have hFc := va_free (wc := [(h0, .inr (15, [.ref a, v1, v2, v3, v4, .int th])), (a, .inr (4, [w0, w1, .int 0]))]) hD hS hA [0, 1] rfl
  refine va_calli (va_runV (As := [.int p0]) (rest := [.ref h0]) ⟨hx, hb, hml, hown, hts⟩ (n_isNoStructure l dC dI s.heap.size h0 a v1 v2 v3 v4 (.int th) w0 w1 p0) (cwV 1 hts (pw_V q1295 q1297 q20 q49 q1298) rfl rfl rfl (by decide +kernel) ⟨(Nat.le_of_ble_eq_true rfl), (Nat.le_of_ble_eq_true rfl)⟩) ⟨fun a U g mk q => by obtain ⟨q0, q1, qP, qK, qD⟩ := q; exact ⟨q0, q1, qP, va_K.moved (u := U) (U := U.calling g mk a) (Vm.Alike.refl U.vm) qK, qD⟩, va_recv hKc hPc (ci := 15) (q0 := 0) rfl rfl, fun U hU hW => ⟨rfl, by rw [hU], by rw [hU]; exact hPc, va_K.moved hW.alike hKc, hDc.weaken (fun _ _ _ _ => trivial)⟩⟩ rfl rfl hl.1 rfl (lv_room (Nat.le_of_ble_eq_true rfl)) dX10_getCracks_3 ⟨(Nat.le_of_ble_eq_true rfl), (Nat.le_of_ble_eq_true rfl)⟩) hS (fun q _ h => hFc q h) hFc (fun r_296 u t H1 locs ht hvm hw hB hz1 hk1 hS => ?_)
  obtain ⟨hP1, hK1, hD1⟩ := hB
  rw [ht] at hP1
  have hK1 := va_K.moved hvm.symm hK1
  obtain ⟨hP, hD⟩ := va_join (wr := []) (w1 := [(h0, .inr (15, [.ref a, v1, v2, v3, v4, .int th])), (a, .inr (4, [w0, w1, .int 0]))]) hP hD [0, 1] [] rfl rfl (by decide) (by decide) hk1 hFc hP1 hD1
  have hK := (hK.sub (tys' := []) [] rfl).app hK1
  generalize H1 = H at hP hS ⊢
  have hP : va_P (dC, dI) vwCl [(h0, .inr (15, [.ref a, v1, v2, v3, v4, .int th])), (a, .inr (4, [w0, w1, .int 0]))] H := hP
  have hD : va_D A [(h0, .inr (15, [.ref a, v1, v2, v3, v4, .int th])), (a, .inr (4, [w0, w1, .int 0]))] := hD
  have hK : va_K (dC, dI) vwCl [] s := hK
  refine W.widen (k := 0) (n := 0) (Nat.le_of_ble_eq_true rfl) (Nat.le_of_ble_eq_true rfl) ?_
  have hw : r_296 = 1 := hw
  subst hw
  refine lv_iconst (v := 1) hx hb dX10_getCracks_6 (by decide) ?_
  have hPc := hP.sub (ws' := [(h0, .inr (15, [.ref a, v1, v2, v3, v4, .int th]))]) [0] rfl
  have hDc := hD.sub (ws' := [(h0, .inr (15, [.ref a, v1, v2, v3, v4, .int th]))]) [0] (by decide) rfl
  have hKc := hK.sub (tys' := []) [] rfl
  have hFc := va_free (wc := [(h0, .inr (15, [.ref a, v1, v2, v3, v4, .int th]))]) hD hS hA [0] rfl
  refine va_calli (va_runV (As := [.int 1, .int 1]) (rest := []) ⟨hx, hb, hml, hown, hts⟩ (n_isThrown1 l dC dI H.size h0 (.ref a) v1 v2 v3 v4 th 1) (cwV 2 hts (pw_V q1253 q1255 q19 q49 q1256) rfl rfl rfl (by decide +kernel) ⟨(Nat.le_of_ble_eq_true rfl), (Nat.le_of_ble_eq_true rfl)⟩) ⟨fun a U g mk q => by obtain ⟨q0, q1, qP, qK, qD⟩ := q; exact ⟨q0, q1, qP, va_K.moved (u := U) (U := U.calling g mk a) (Vm.Alike.refl U.vm) qK, qD⟩, va_recv hKc hPc (ci := 15) (q0 := 0) rfl rfl, fun U hU hW => ⟨rfl, by rw [hU], by rw [hU]; exact hPc, va_K.moved hW.alike hKc, hDc.weaken (fun _ _ _ _ => trivial)⟩⟩ rfl rfl hl.1 rfl (lv_room (Nat.le_of_ble_eq_true rfl)) dX10_getCracks_7 ⟨(Nat.le_of_ble_eq_true rfl), (Nat.le_of_ble_eq_true rfl)⟩) hS (fun q _ h => hFc q h) hFc (fun r_297 u t H1 locs ht hvm hw hB hz1 hk1 hS => ?_)
  obtain ⟨hP1, hK1, hD1⟩ := hB
  rw [ht] at hP1
  have hK1 := va_K.moved hvm.symm hK1
  obtain ⟨hP, hD⟩ := va_join (wr := [(a, .inr (4, [w0, w1, .int 0]))]) (w1 := [(h0, .inr (15, [.ref a, v1, v2, v3, v4, .int 1]))]) hP hD [0] [1] rfl rfl (by decide) (by decide) hk1 hFc hP1 hD1
  have hK := (hK.sub (tys' := []) [] rfl).app hK1
  generalize H1 = H at hP hS ⊢
  have hP : va_P (dC, dI) vwCl [(a, .inr (4, [w0, w1, .int 0])), (h0, .inr (15, [.ref a, v1, v2, v3, v4, .int 1]))] H := hP
  have hD : va_D A [(a, .inr (4, [w0, w1, .int 0])), (h0, .inr (15, [.ref a, v1, v2, v3, v4, .int 1]))] := hD
  have hK : va_K (dC, dI) vwCl [] s := hK
  refine W.widen (k := 0) (n := 0) (Nat.le_of_ble_eq_true rfl) (Nat.le_of_ble_eq_true rfl) ?_
  have hw : r_297 = 1 := hw
  subst hw
  refine lv_if_eq (tgt := 17) hx hb dX10_getCracks_10 (by decide) (fun c_298 => absurd c_298 (by decide)) (fun c_298 => ?_)
  refine lv_iconst (v := 0) hx hb dX10_getCracks_13 (by decide) ?_
  refine lv_goto (tgt := 31) hx hb dX10_getCracks_14 (by decide) ?_
  have hP9 := hP.sub (ws' := [(h0, .inr (15, [.ref a, v1, v2, v3, v4, .int 1])), (a, .inr (4, [w0, w1, .int 0]))]) [1, 0] rfl
  have hD9 := hD.sub (ws' := [(h0, .inr (15, [.ref a, v1, v2, v3, v4, .int 1])), (a, .inr (4, [w0, w1, .int 0]))]) [1, 0] (by decide) rfl
  have hK9 := hK.sub (tys' := []) [] rfl
  refine W.widen (k := 0) (n := 0) (Nat.le_of_ble_eq_true rfl) (Nat.le_of_ble_eq_true rfl) ?_
  exact W.iret (v := 0) hx hb hr (fun t ht hW => ⟨⟨0, (), rfl, rfl, ⟨by rw [ht]; exact hP9, va_K.moved hW.alike hK9, hD9⟩⟩, hS.F ht⟩) hS.2.2 dX10_getCracks_31
set_option maxHeartbeats 4000000 in
set_option maxRecDepth 100000 in
theorem y_takeSignature (l : Launch) (dC : Nat → ClassId) (dI : Nat → Nat → Nat) (sz : Nat) (h0 : Nat) (a : Nat) (v1 : Value) (v2 : Value) (v3 : Value) (v4 : Value) (w0 : Value) (w1 : Value) (th : Int32) (p0 : Int32) : Met l yX10_takeSignature (pw_ws yX10_takeSignature cX10_takeSignature 3 (some .int)) ({ frames := 3, cells := 0, slots := 0, locals := 63 } : Room) (va_Pc [.ref h0, .int p0] (fun U => U.heap.size = sz ∧ va_P (dC, dI) vwCl [(h0, .inr (15, [.ref a, v1, v2, v3, v4, .int th])), (a, .inr (4, [w0, w1, .int 0]))] U.heap ∧ va_K (dC, dI) vwCl [] U ∧ va_D (fun _ => True) [(h0, .inr (15, [.ref a, v1, v2, v3, v4, .int th])), (a, .inr (4, [w0, w1, .int 0]))])) (va_Qi (fun (r : Int32) (_ : Unit) => r = 0) (fun (_ : Unit) (t : State) => va_P (dC, dI) vwCl [(h0, .inr (15, [.ref a, v1, v2, v3, v4, .int 1])), (a, .inr (4, [w0, w1, .int 0]))] t.heap ∧ va_K (dC, dI) vwCl [] t ∧ va_D (va_A [(h0, .inr (15, [.ref a, v1, v2, v3, v4, .int th])), (a, .inr (4, [w0, w1, .int 0]))] sz) [(h0, .inr (15, [.ref a, v1, v2, v3, v4, .int 1])), (a, .inr (4, [w0, w1, .int 0]))]) (va_A [(h0, .inr (15, [.ref a, v1, v2, v3, v4, .int th])), (a, .inr (4, [w0, w1, .int 0]))] sz)) 0 0 (va_A [(h0, .inr (15, [.ref a, v1, v2, v3, v4, .int th])), (a, .inr (4, [w0, w1, .int 0]))] sz) := by
  refine Met.ofW (cc := cX10_takeSignature) (maxL := 3) (ret := (some .int)) (by decide) rfl ?_
  intro p e s m args below meth c s₁ B hml hv
  obtain ⟨rfl, hsz, hP, hK, hD0⟩ := hv
  have hx := B.exec
  have hb := B.bytes
  have hr := B.returns
  have hts0 := atoms_spec (ws := (pw_ws yX10_takeSignature cX10_takeSignature 3 (some .int))) B.pre
  have hts : ∀ w ∈ pw_all, w.before _ s = true := fun w h => hts0 w (List.mem_cons_of_mem _ h)
  have hown : s.vm.findClass RX10 = some m.cls := findClass_of_methodNamed B.named
  have hlocks := B.notSynchronized
  subst hsz
  have hD := hD0.self (sz := s.heap.size)
  generalize hAe : va_A [(h0, .inr (15, [.ref a, v1, v2, v3, v4, .int th])), (a, .inr (4, [w0, w1, .int 0]))] s.heap.size = A at hD ⊢
  have hA : ∀ q : Nat, s.heap.size ≤ q → A q := fun q h => by rw [← hAe]; exact Or.inr h
  have hS : va_S A s.heap s.heap [] := va_S.rf
  have hP : va_P (dC, dI) vwCl [(h0, .inr (15, [.ref a, v1, v2, v3, v4, .int th])), (a, .inr (4, [w0, w1, .int 0]))] s.heap := hP
  have hl := lv_entry ([.ref h0, .int p0]) (n := 3) (Nat.le_of_ble_eq_true rfl)
  rw [lg_entry_eq]
  generalize (lg_sl ([.ref h0, .int p0]) ++ List.replicate (3 - (lg_sl ([.ref h0, .int p0])).length) Slot.unset).toArray = ls at hl ⊢
  have hl : lv_has ls 3 [(0, .ref h0), (1, .int p0)] := hl
  skip
  refine lv_aload_n hx hb dX10_takeSignature_0 rfl (lv_at hl 0 rfl) ?_
  refine lv_aload_n hx hb dX10_takeSignature_1 rfl (lv_at hl 0 rfl) ?_
  refine lv_iload_n hx hb dX10_takeSignature_2 rfl (lv_at hl 1 rfl) ?_
  have hPc := hP.sub (ws' := [(h0, .inr (15, [.ref a, v1, v2, v3, v4, .int th])), (a, .inr (4, [w0, w1, .int 0]))]) [0, 1] rfl
  have hDc := hD.sub (ws' := [(h0, .inr (15, [.ref a, v1, v2, v3, v4, .int th])), (a, .inr (4, [w0, w1, .int 0]))]) [0, 1] (by decide) rfl
  have hKc := hK.sub (tys' := []) [] rfl
  have hFc := va_free (wc := [(h0, .inr (15, [.ref a, v1, v2, v3, v4, .int th])), (a, .inr (4, [w0, w1, .int 0]))]) hD hS hA [0, 1] rfl
  refine va_calli (va_runV (As := [.int p0]) (rest := [.ref h0]) ⟨hx, hb, hml, hown, hts⟩ (n_isNoStructure l dC dI s.heap.size h0 a v1 v2 v3 v4 (.int th) w0 w1 p0) (cwV 1 hts (pw_V q1295 q1297 q20 q49 q1298) rfl rfl rfl (by decide +kernel) ⟨(Nat.le_of_ble_eq_true rfl), (Nat.le_of_ble_eq_true rfl)⟩) ⟨fun a U g mk q => by obtain ⟨q0, q1, qP, qK, qD⟩ := q; exact ⟨q0, q1, qP, va_K.moved (u := U) (U := U.calling g mk a) (Vm.Alike.refl U.vm) qK, qD⟩, va_recv hKc hPc (ci := 15) (q0 := 0) rfl rfl, fun U hU hW => ⟨rfl, by rw [hU], by rw [hU]; exact hPc, va_K.moved hW.alike hKc, hDc.weaken (fun _ _ _ _ => trivial)⟩⟩ rfl rfl hl.1 rfl (lv_room (Nat.le_of_ble_eq_true rfl)) dX10_takeSignature_3 ⟨(Nat.le_of_ble_eq_true rfl), (Nat.le_of_ble_eq_true rfl)⟩) hS (fun q _ h => hFc q h) hFc (fun r_299 u t H1 locs ht hvm hw hB hz1 hk1 hS => ?_)
  obtain ⟨hP1, hK1, hD1⟩ := hB
  rw [ht] at hP1
  have hK1 := va_K.moved hvm.symm hK1
  obtain ⟨hP, hD⟩ := va_join (wr := []) (w1 := [(h0, .inr (15, [.ref a, v1, v2, v3, v4, .int th])), (a, .inr (4, [w0, w1, .int 0]))]) hP hD [0, 1] [] rfl rfl (by decide) (by decide) hk1 hFc hP1 hD1
  have hK := (hK.sub (tys' := []) [] rfl).app hK1
  generalize H1 = H at hP hS ⊢
  have hP : va_P (dC, dI) vwCl [(h0, .inr (15, [.ref a, v1, v2, v3, v4, .int th])), (a, .inr (4, [w0, w1, .int 0]))] H := hP
  have hD : va_D A [(h0, .inr (15, [.ref a, v1, v2, v3, v4, .int th])), (a, .inr (4, [w0, w1, .int 0]))] := hD
  have hK : va_K (dC, dI) vwCl [] s := hK
  refine W.widen (k := 0) (n := 0) (Nat.le_of_ble_eq_true rfl) (Nat.le_of_ble_eq_true rfl) ?_
  have hw : r_299 = 1 := hw
  subst hw
  refine lv_iconst (v := 1) hx hb dX10_takeSignature_6 (by decide) ?_
  have hPc := hP.sub (ws' := [(h0, .inr (15, [.ref a, v1, v2, v3, v4, .int th]))]) [0] rfl
  have hDc := hD.sub (ws' := [(h0, .inr (15, [.ref a, v1, v2, v3, v4, .int th]))]) [0] (by decide) rfl
  have hKc := hK.sub (tys' := []) [] rfl
  have hFc := va_free (wc := [(h0, .inr (15, [.ref a, v1, v2, v3, v4, .int th]))]) hD hS hA [0] rfl
  refine va_calli (va_runV (As := [.int 1, .int 1]) (rest := []) ⟨hx, hb, hml, hown, hts⟩ (n_isThrown1 l dC dI H.size h0 (.ref a) v1 v2 v3 v4 th 1) (cwV 2 hts (pw_V q1253 q1255 q19 q49 q1256) rfl rfl rfl (by decide +kernel) ⟨(Nat.le_of_ble_eq_true rfl), (Nat.le_of_ble_eq_true rfl)⟩) ⟨fun a U g mk q => by obtain ⟨q0, q1, qP, qK, qD⟩ := q; exact ⟨q0, q1, qP, va_K.moved (u := U) (U := U.calling g mk a) (Vm.Alike.refl U.vm) qK, qD⟩, va_recv hKc hPc (ci := 15) (q0 := 0) rfl rfl, fun U hU hW => ⟨rfl, by rw [hU], by rw [hU]; exact hPc, va_K.moved hW.alike hKc, hDc.weaken (fun _ _ _ _ => trivial)⟩⟩ rfl rfl hl.1 rfl (lv_room (Nat.le_of_ble_eq_true rfl)) dX10_takeSignature_7 ⟨(Nat.le_of_ble_eq_true rfl), (Nat.le_of_ble_eq_true rfl)⟩) hS (fun q _ h => hFc q h) hFc (fun r_300 u t H1 locs ht hvm hw hB hz1 hk1 hS => ?_)
  obtain ⟨hP1, hK1, hD1⟩ := hB
  rw [ht] at hP1
  have hK1 := va_K.moved hvm.symm hK1
  obtain ⟨hP, hD⟩ := va_join (wr := [(a, .inr (4, [w0, w1, .int 0]))]) (w1 := [(h0, .inr (15, [.ref a, v1, v2, v3, v4, .int 1]))]) hP hD [0] [1] rfl rfl (by decide) (by decide) hk1 hFc hP1 hD1
  have hK := (hK.sub (tys' := []) [] rfl).app hK1
  generalize H1 = H at hP hS ⊢
  have hP : va_P (dC, dI) vwCl [(a, .inr (4, [w0, w1, .int 0])), (h0, .inr (15, [.ref a, v1, v2, v3, v4, .int 1]))] H := hP
  have hD : va_D A [(a, .inr (4, [w0, w1, .int 0])), (h0, .inr (15, [.ref a, v1, v2, v3, v4, .int 1]))] := hD
  have hK : va_K (dC, dI) vwCl [] s := hK
  refine W.widen (k := 0) (n := 0) (Nat.le_of_ble_eq_true rfl) (Nat.le_of_ble_eq_true rfl) ?_
  have hw : r_300 = 1 := hw
  subst hw
  refine lv_if_ne (tgt := 26) hx hb dX10_takeSignature_10 (by decide) (fun c_301 => ?_) (fun c_301 => absurd c_301 (by decide))
  refine lv_iconst (v := 0) hx hb dX10_takeSignature_26 (by decide) ?_
  have hP9 := hP.sub (ws' := [(h0, .inr (15, [.ref a, v1, v2, v3, v4, .int 1])), (a, .inr (4, [w0, w1, .int 0]))]) [1, 0] rfl
  have hD9 := hD.sub (ws' := [(h0, .inr (15, [.ref a, v1, v2, v3, v4, .int 1])), (a, .inr (4, [w0, w1, .int 0]))]) [1, 0] (by decide) rfl
  have hK9 := hK.sub (tys' := []) [] rfl
  refine W.widen (k := 0) (n := 0) (Nat.le_of_ble_eq_true rfl) (Nat.le_of_ble_eq_true rfl) ?_
  exact W.iret (v := 0) hx hb hr (fun t ht hW => ⟨⟨0, (), rfl, rfl, ⟨by rw [ht]; exact hP9, va_K.moved hW.alike hK9, hD9⟩⟩, hS.F ht⟩) hS.2.2 dX10_takeSignature_27
set_option maxHeartbeats 4000000 in
set_option maxRecDepth 100000 in
theorem y_differs (l : Launch) (dC : Nat → ClassId) (dI : Nat → Nat → Nat) (sz : Nat) (h0 : Nat) (a : Nat) (v1 : Value) (v2 : Value) (v3 : Value) (v4 : Value) (w0 : Value) (w1 : Value) (th : Int32) (p0 : Int32) : Met l yX10_differs (pw_ws yX10_differs cX10_differs 4 (some .boolean)) ({ frames := 3, cells := 0, slots := 0, locals := 63 } : Room) (va_Pc [.ref h0, .int p0] (fun U => U.heap.size = sz ∧ va_P (dC, dI) vwCl [(h0, .inr (15, [.ref a, v1, v2, v3, v4, .int th])), (a, .inr (4, [w0, w1, .int 0]))] U.heap ∧ va_K (dC, dI) vwCl [] U ∧ va_D (fun _ => True) [(h0, .inr (15, [.ref a, v1, v2, v3, v4, .int th])), (a, .inr (4, [w0, w1, .int 0]))])) (va_Qi (fun (r : Int32) (_ : Unit) => r = 0) (fun (_ : Unit) (t : State) => va_P (dC, dI) vwCl [(h0, .inr (15, [.ref a, v1, v2, v3, v4, .int 1])), (a, .inr (4, [w0, w1, .int 0]))] t.heap ∧ va_K (dC, dI) vwCl [] t ∧ va_D (va_A [(h0, .inr (15, [.ref a, v1, v2, v3, v4, .int th])), (a, .inr (4, [w0, w1, .int 0]))] sz) [(h0, .inr (15, [.ref a, v1, v2, v3, v4, .int 1])), (a, .inr (4, [w0, w1, .int 0]))]) (va_A [(h0, .inr (15, [.ref a, v1, v2, v3, v4, .int th])), (a, .inr (4, [w0, w1, .int 0]))] sz)) 0 0 (va_A [(h0, .inr (15, [.ref a, v1, v2, v3, v4, .int th])), (a, .inr (4, [w0, w1, .int 0]))] sz) := by
  refine Met.ofW (cc := cX10_differs) (maxL := 4) (ret := (some .boolean)) (by decide) rfl ?_
  intro p e s m args below meth c s₁ B hml hv
  obtain ⟨rfl, hsz, hP, hK, hD0⟩ := hv
  have hx := B.exec
  have hb := B.bytes
  have hr := B.returns
  have hts0 := atoms_spec (ws := (pw_ws yX10_differs cX10_differs 4 (some .boolean))) B.pre
  have hts : ∀ w ∈ pw_all, w.before _ s = true := fun w h => hts0 w (List.mem_cons_of_mem _ h)
  have hown : s.vm.findClass RX10 = some m.cls := findClass_of_methodNamed B.named
  have hlocks := B.notSynchronized
  subst hsz
  have hD := hD0.self (sz := s.heap.size)
  generalize hAe : va_A [(h0, .inr (15, [.ref a, v1, v2, v3, v4, .int th])), (a, .inr (4, [w0, w1, .int 0]))] s.heap.size = A at hD ⊢
  have hA : ∀ q : Nat, s.heap.size ≤ q → A q := fun q h => by rw [← hAe]; exact Or.inr h
  have hS : va_S A s.heap s.heap [] := va_S.rf
  have hP : va_P (dC, dI) vwCl [(h0, .inr (15, [.ref a, v1, v2, v3, v4, .int th])), (a, .inr (4, [w0, w1, .int 0]))] s.heap := hP
  have hl := lv_entry ([.ref h0, .int p0]) (n := 4) (Nat.le_of_ble_eq_true rfl)
  rw [lg_entry_eq]
  generalize (lg_sl ([.ref h0, .int p0]) ++ List.replicate (4 - (lg_sl ([.ref h0, .int p0])).length) Slot.unset).toArray = ls at hl ⊢
  have hl : lv_has ls 4 [(0, .ref h0), (1, .int p0)] := hl
  skip
  refine lv_aload_n hx hb dX10_differs_0 rfl (lv_at hl 0 rfl) ?_
  refine lv_aload_n hx hb dX10_differs_1 rfl (lv_at hl 0 rfl) ?_
  refine lv_iload_n hx hb dX10_differs_2 rfl (lv_at hl 1 rfl) ?_
  have hPc := hP.sub (ws' := [(h0, .inr (15, [.ref a, v1, v2, v3, v4, .int th])), (a, .inr (4, [w0, w1, .int 0]))]) [0, 1] rfl
  have hDc := hD.sub (ws' := [(h0, .inr (15, [.ref a, v1, v2, v3, v4, .int th])), (a, .inr (4, [w0, w1, .int 0]))]) [0, 1] (by decide) rfl
  have hKc := hK.sub (tys' := []) [] rfl
  have hFc := va_free (wc := [(h0, .inr (15, [.ref a, v1, v2, v3, v4, .int th])), (a, .inr (4, [w0, w1, .int 0]))]) hD hS hA [0, 1] rfl
  refine va_calli (va_runV (As := [.int p0]) (rest := [.ref h0]) ⟨hx, hb, hml, hown, hts⟩ (n_isNoStructure l dC dI s.heap.size h0 a v1 v2 v3 v4 (.int th) w0 w1 p0) (cwV 1 hts (pw_V q1295 q1297 q20 q49 q1298) rfl rfl rfl (by decide +kernel) ⟨(Nat.le_of_ble_eq_true rfl), (Nat.le_of_ble_eq_true rfl)⟩) ⟨fun a U g mk q => by obtain ⟨q0, q1, qP, qK, qD⟩ := q; exact ⟨q0, q1, qP, va_K.moved (u := U) (U := U.calling g mk a) (Vm.Alike.refl U.vm) qK, qD⟩, va_recv hKc hPc (ci := 15) (q0 := 0) rfl rfl, fun U hU hW => ⟨rfl, by rw [hU], by rw [hU]; exact hPc, va_K.moved hW.alike hKc, hDc.weaken (fun _ _ _ _ => trivial)⟩⟩ rfl rfl hl.1 rfl (lv_room (Nat.le_of_ble_eq_true rfl)) dX10_differs_3 ⟨(Nat.le_of_ble_eq_true rfl), (Nat.le_of_ble_eq_true rfl)⟩) hS (fun q _ h => hFc q h) hFc (fun r_302 u t H1 locs ht hvm hw hB hz1 hk1 hS => ?_)
  obtain ⟨hP1, hK1, hD1⟩ := hB
  rw [ht] at hP1
  have hK1 := va_K.moved hvm.symm hK1
  obtain ⟨hP, hD⟩ := va_join (wr := []) (w1 := [(h0, .inr (15, [.ref a, v1, v2, v3, v4, .int th])), (a, .inr (4, [w0, w1, .int 0]))]) hP hD [0, 1] [] rfl rfl (by decide) (by decide) hk1 hFc hP1 hD1
  have hK := (hK.sub (tys' := []) [] rfl).app hK1
  generalize H1 = H at hP hS ⊢
  have hP : va_P (dC, dI) vwCl [(h0, .inr (15, [.ref a, v1, v2, v3, v4, .int th])), (a, .inr (4, [w0, w1, .int 0]))] H := hP
  have hD : va_D A [(h0, .inr (15, [.ref a, v1, v2, v3, v4, .int th])), (a, .inr (4, [w0, w1, .int 0]))] := hD
  have hK : va_K (dC, dI) vwCl [] s := hK
  refine W.widen (k := 0) (n := 0) (Nat.le_of_ble_eq_true rfl) (Nat.le_of_ble_eq_true rfl) ?_
  have hw : r_302 = 1 := hw
  subst hw
  refine lv_iconst (v := 1) hx hb dX10_differs_6 (by decide) ?_
  have hPc := hP.sub (ws' := [(h0, .inr (15, [.ref a, v1, v2, v3, v4, .int th]))]) [0] rfl
  have hDc := hD.sub (ws' := [(h0, .inr (15, [.ref a, v1, v2, v3, v4, .int th]))]) [0] (by decide) rfl
  have hKc := hK.sub (tys' := []) [] rfl
  have hFc := va_free (wc := [(h0, .inr (15, [.ref a, v1, v2, v3, v4, .int th]))]) hD hS hA [0] rfl
  refine va_calli (va_runV (As := [.int 1, .int 1]) (rest := []) ⟨hx, hb, hml, hown, hts⟩ (n_isThrown1 l dC dI H.size h0 (.ref a) v1 v2 v3 v4 th 1) (cwV 2 hts (pw_V q1253 q1255 q19 q49 q1256) rfl rfl rfl (by decide +kernel) ⟨(Nat.le_of_ble_eq_true rfl), (Nat.le_of_ble_eq_true rfl)⟩) ⟨fun a U g mk q => by obtain ⟨q0, q1, qP, qK, qD⟩ := q; exact ⟨q0, q1, qP, va_K.moved (u := U) (U := U.calling g mk a) (Vm.Alike.refl U.vm) qK, qD⟩, va_recv hKc hPc (ci := 15) (q0 := 0) rfl rfl, fun U hU hW => ⟨rfl, by rw [hU], by rw [hU]; exact hPc, va_K.moved hW.alike hKc, hDc.weaken (fun _ _ _ _ => trivial)⟩⟩ rfl rfl hl.1 rfl (lv_room (Nat.le_of_ble_eq_true rfl)) dX10_differs_7 ⟨(Nat.le_of_ble_eq_true rfl), (Nat.le_of_ble_eq_true rfl)⟩) hS (fun q _ h => hFc q h) hFc (fun r_303 u t H1 locs ht hvm hw hB hz1 hk1 hS => ?_)
  obtain ⟨hP1, hK1, hD1⟩ := hB
  rw [ht] at hP1
  have hK1 := va_K.moved hvm.symm hK1
  obtain ⟨hP, hD⟩ := va_join (wr := [(a, .inr (4, [w0, w1, .int 0]))]) (w1 := [(h0, .inr (15, [.ref a, v1, v2, v3, v4, .int 1]))]) hP hD [0] [1] rfl rfl (by decide) (by decide) hk1 hFc hP1 hD1
  have hK := (hK.sub (tys' := []) [] rfl).app hK1
  generalize H1 = H at hP hS ⊢
  have hP : va_P (dC, dI) vwCl [(a, .inr (4, [w0, w1, .int 0])), (h0, .inr (15, [.ref a, v1, v2, v3, v4, .int 1]))] H := hP
  have hD : va_D A [(a, .inr (4, [w0, w1, .int 0])), (h0, .inr (15, [.ref a, v1, v2, v3, v4, .int 1]))] := hD
  have hK : va_K (dC, dI) vwCl [] s := hK
  refine W.widen (k := 0) (n := 0) (Nat.le_of_ble_eq_true rfl) (Nat.le_of_ble_eq_true rfl) ?_
  have hw : r_303 = 1 := hw
  subst hw
  refine lv_if_ne (tgt := 44) hx hb dX10_differs_10 (by decide) (fun c_304 => ?_) (fun c_304 => absurd c_304 (by decide))
  refine lv_iconst (v := 0) hx hb dX10_differs_44 (by decide) ?_
  have hP9 := hP.sub (ws' := [(h0, .inr (15, [.ref a, v1, v2, v3, v4, .int 1])), (a, .inr (4, [w0, w1, .int 0]))]) [1, 0] rfl
  have hD9 := hD.sub (ws' := [(h0, .inr (15, [.ref a, v1, v2, v3, v4, .int 1])), (a, .inr (4, [w0, w1, .int 0]))]) [1, 0] (by decide) rfl
  have hK9 := hK.sub (tys' := []) [] rfl
  refine W.widen (k := 0) (n := 0) (Nat.le_of_ble_eq_true rfl) (Nat.le_of_ble_eq_true rfl) ?_
  exact W.zret (v := 0) hx hb hr (by decide) (fun t ht hW => ⟨⟨0, (), rfl, rfl, ⟨by rw [ht]; exact hP9, va_K.moved hW.alike hK9, hD9⟩⟩, hS.F ht⟩) hS.2.2 dX10_differs_45
set_option maxHeartbeats 4000000 in
set_option maxRecDepth 100000 in
theorem y_setLoose (l : Launch) (dC : Nat → ClassId) (dI : Nat → Nat → Nat) (sz : Nat) (h0 : Nat) (a : Nat) (v0 : Value) (v2 : Value) (v3 : Value) (v4 : Value) (w0 : Value) (w1 : Value) (th : Int32) (p0 : Int32) (p1 : Int32) : Met l yX10_setLoose (pw_ws yX10_setLoose cX10_setLoose 4 (some .boolean)) ({ frames := 3, cells := 0, slots := 0, locals := 63 } : Room) (va_Pc [.ref h0, .int p0, .int p1] (fun U => U.heap.size = sz ∧ va_P (dC, dI) vwCl [(h0, .inr (15, [v0, .ref a, v2, v3, v4, .int th])), (a, .inr (4, [w0, w1, .int 0]))] U.heap ∧ va_K (dC, dI) vwCl [] U ∧ va_D (fun _ => True) [(h0, .inr (15, [v0, .ref a, v2, v3, v4, .int th])), (a, .inr (4, [w0, w1, .int 0]))])) (va_Qi (fun (r : Int32) (_ : Unit) => r = 0) (fun (_ : Unit) (t : State) => va_P (dC, dI) vwCl [(h0, .inr (15, [v0, .ref a, v2, v3, v4, .int 1])), (a, .inr (4, [w0, w1, .int 0]))] t.heap ∧ va_K (dC, dI) vwCl [] t ∧ va_D (va_A [(h0, .inr (15, [v0, .ref a, v2, v3, v4, .int th])), (a, .inr (4, [w0, w1, .int 0]))] sz) [(h0, .inr (15, [v0, .ref a, v2, v3, v4, .int 1])), (a, .inr (4, [w0, w1, .int 0]))]) (va_A [(h0, .inr (15, [v0, .ref a, v2, v3, v4, .int th])), (a, .inr (4, [w0, w1, .int 0]))] sz)) 0 0 (va_A [(h0, .inr (15, [v0, .ref a, v2, v3, v4, .int th])), (a, .inr (4, [w0, w1, .int 0]))] sz) := by
  refine Met.ofW (cc := cX10_setLoose) (maxL := 4) (ret := (some .boolean)) (by decide) rfl ?_
  intro p e s m args below meth c s₁ B hml hv
  obtain ⟨rfl, hsz, hP, hK, hD0⟩ := hv
  have hx := B.exec
  have hb := B.bytes
  have hr := B.returns
  have hts0 := atoms_spec (ws := (pw_ws yX10_setLoose cX10_setLoose 4 (some .boolean))) B.pre
  have hts : ∀ w ∈ pw_all, w.before _ s = true := fun w h => hts0 w (List.mem_cons_of_mem _ h)
  have hown : s.vm.findClass RX10 = some m.cls := findClass_of_methodNamed B.named
  have hlocks := B.notSynchronized
  subst hsz
  have hD := hD0.self (sz := s.heap.size)
  generalize hAe : va_A [(h0, .inr (15, [v0, .ref a, v2, v3, v4, .int th])), (a, .inr (4, [w0, w1, .int 0]))] s.heap.size = A at hD ⊢
  have hA : ∀ q : Nat, s.heap.size ≤ q → A q := fun q h => by rw [← hAe]; exact Or.inr h
  have hS : va_S A s.heap s.heap [] := va_S.rf
  have hP : va_P (dC, dI) vwCl [(h0, .inr (15, [v0, .ref a, v2, v3, v4, .int th])), (a, .inr (4, [w0, w1, .int 0]))] s.heap := hP
  have hl := lv_entry ([.ref h0, .int p0, .int p1]) (n := 4) (Nat.le_of_ble_eq_true rfl)
  rw [lg_entry_eq]
  generalize (lg_sl ([.ref h0, .int p0, .int p1]) ++ List.replicate (4 - (lg_sl ([.ref h0, .int p0, .int p1])).length) Slot.unset).toArray = ls at hl ⊢
  have hl : lv_has ls 4 [(0, .ref h0), (1, .int p0), (2, .int p1)] := hl
  skip
  refine lv_aload_n hx hb dX10_setLoose_0 rfl (lv_at hl 0 rfl) ?_
  refine lv_aload_n hx hb dX10_setLoose_1 rfl (lv_at hl 0 rfl) ?_
  refine lv_iload_n hx hb dX10_setLoose_2 rfl (lv_at hl 1 rfl) ?_
  have hPc := hP.sub (ws' := [(h0, .inr (15, [v0, .ref a, v2, v3, v4, .int th])), (a, .inr (4, [w0, w1, .int 0]))]) [0, 1] rfl
  have hDc := hD.sub (ws' := [(h0, .inr (15, [v0, .ref a, v2, v3, v4, .int th])), (a, .inr (4, [w0, w1, .int 0]))]) [0, 1] (by decide) rfl
  have hKc := hK.sub (tys' := []) [] rfl
  have hFc := va_free (wc := [(h0, .inr (15, [v0, .ref a, v2, v3, v4, .int th])), (a, .inr (4, [w0, w1, .int 0]))]) hD hS hA [0, 1] rfl
  refine va_calli (va_runV (As := [.int p0]) (rest := [.ref h0]) ⟨hx, hb, hml, hown, hts⟩ (n_isNoSensor l dC dI s.heap.size h0 a v0 v2 v3 v4 (.int th) w0 w1 p0) (cwV 1 hts (pw_V q1410 q1412 q26 q49 q1413) rfl rfl rfl (by decide +kernel) ⟨(Nat.le_of_ble_eq_true rfl), (Nat.le_of_ble_eq_true rfl)⟩) ⟨fun a U g mk q => by obtain ⟨q0, q1, qP, qK, qD⟩ := q; exact ⟨q0, q1, qP, va_K.moved (u := U) (U := U.calling g mk a) (Vm.Alike.refl U.vm) qK, qD⟩, va_recv hKc hPc (ci := 15) (q0 := 0) rfl rfl, fun U hU hW => ⟨rfl, by rw [hU], by rw [hU]; exact hPc, va_K.moved hW.alike hKc, hDc.weaken (fun _ _ _ _ => trivial)⟩⟩ rfl rfl hl.1 rfl (lv_room (Nat.le_of_ble_eq_true rfl)) dX10_setLoose_3 ⟨(Nat.le_of_ble_eq_true rfl), (Nat.le_of_ble_eq_true rfl)⟩) hS (fun q _ h => hFc q h) hFc (fun r_305 u t H1 locs ht hvm hw hB hz1 hk1 hS => ?_)
  obtain ⟨hP1, hK1, hD1⟩ := hB
  rw [ht] at hP1
  have hK1 := va_K.moved hvm.symm hK1
  obtain ⟨hP, hD⟩ := va_join (wr := []) (w1 := [(h0, .inr (15, [v0, .ref a, v2, v3, v4, .int th])), (a, .inr (4, [w0, w1, .int 0]))]) hP hD [0, 1] [] rfl rfl (by decide) (by decide) hk1 hFc hP1 hD1
  have hK := (hK.sub (tys' := []) [] rfl).app hK1
  generalize H1 = H at hP hS ⊢
  have hP : va_P (dC, dI) vwCl [(h0, .inr (15, [v0, .ref a, v2, v3, v4, .int th])), (a, .inr (4, [w0, w1, .int 0]))] H := hP
  have hD : va_D A [(h0, .inr (15, [v0, .ref a, v2, v3, v4, .int th])), (a, .inr (4, [w0, w1, .int 0]))] := hD
  have hK : va_K (dC, dI) vwCl [] s := hK
  refine W.widen (k := 0) (n := 0) (Nat.le_of_ble_eq_true rfl) (Nat.le_of_ble_eq_true rfl) ?_
  have hw : r_305 = 1 := hw
  subst hw
  refine lv_iconst (v := 1) hx hb dX10_setLoose_6 (by decide) ?_
  have hPc := hP.sub (ws' := [(h0, .inr (15, [v0, .ref a, v2, v3, v4, .int th]))]) [0] rfl
  have hDc := hD.sub (ws' := [(h0, .inr (15, [v0, .ref a, v2, v3, v4, .int th]))]) [0] (by decide) rfl
  have hKc := hK.sub (tys' := []) [] rfl
  have hFc := va_free (wc := [(h0, .inr (15, [v0, .ref a, v2, v3, v4, .int th]))]) hD hS hA [0] rfl
  refine va_calli (va_runV (As := [.int 1, .int 1]) (rest := []) ⟨hx, hb, hml, hown, hts⟩ (n_isThrown1 l dC dI H.size h0 v0 (.ref a) v2 v3 v4 th 1) (cwV 2 hts (pw_V q1253 q1255 q19 q49 q1256) rfl rfl rfl (by decide +kernel) ⟨(Nat.le_of_ble_eq_true rfl), (Nat.le_of_ble_eq_true rfl)⟩) ⟨fun a U g mk q => by obtain ⟨q0, q1, qP, qK, qD⟩ := q; exact ⟨q0, q1, qP, va_K.moved (u := U) (U := U.calling g mk a) (Vm.Alike.refl U.vm) qK, qD⟩, va_recv hKc hPc (ci := 15) (q0 := 0) rfl rfl, fun U hU hW => ⟨rfl, by rw [hU], by rw [hU]; exact hPc, va_K.moved hW.alike hKc, hDc.weaken (fun _ _ _ _ => trivial)⟩⟩ rfl rfl hl.1 rfl (lv_room (Nat.le_of_ble_eq_true rfl)) dX10_setLoose_7 ⟨(Nat.le_of_ble_eq_true rfl), (Nat.le_of_ble_eq_true rfl)⟩) hS (fun q _ h => hFc q h) hFc (fun r_306 u t H1 locs ht hvm hw hB hz1 hk1 hS => ?_)
  obtain ⟨hP1, hK1, hD1⟩ := hB
  rw [ht] at hP1
  have hK1 := va_K.moved hvm.symm hK1
  obtain ⟨hP, hD⟩ := va_join (wr := [(a, .inr (4, [w0, w1, .int 0]))]) (w1 := [(h0, .inr (15, [v0, .ref a, v2, v3, v4, .int 1]))]) hP hD [0] [1] rfl rfl (by decide) (by decide) hk1 hFc hP1 hD1
  have hK := (hK.sub (tys' := []) [] rfl).app hK1
  generalize H1 = H at hP hS ⊢
  have hP : va_P (dC, dI) vwCl [(a, .inr (4, [w0, w1, .int 0])), (h0, .inr (15, [v0, .ref a, v2, v3, v4, .int 1]))] H := hP
  have hD : va_D A [(a, .inr (4, [w0, w1, .int 0])), (h0, .inr (15, [v0, .ref a, v2, v3, v4, .int 1]))] := hD
  have hK : va_K (dC, dI) vwCl [] s := hK
  refine W.widen (k := 0) (n := 0) (Nat.le_of_ble_eq_true rfl) (Nat.le_of_ble_eq_true rfl) ?_
  have hw : r_306 = 1 := hw
  subst hw
  refine lv_if_eq (tgt := 15) hx hb dX10_setLoose_10 (by decide) (fun c_307 => absurd c_307 (by decide)) (fun c_307 => ?_)
  refine lv_iconst (v := 0) hx hb dX10_setLoose_13 (by decide) ?_
  have hP9 := hP.sub (ws' := [(h0, .inr (15, [v0, .ref a, v2, v3, v4, .int 1])), (a, .inr (4, [w0, w1, .int 0]))]) [1, 0] rfl
  have hD9 := hD.sub (ws' := [(h0, .inr (15, [v0, .ref a, v2, v3, v4, .int 1])), (a, .inr (4, [w0, w1, .int 0]))]) [1, 0] (by decide) rfl
  have hK9 := hK.sub (tys' := []) [] rfl
  refine W.widen (k := 0) (n := 0) (Nat.le_of_ble_eq_true rfl) (Nat.le_of_ble_eq_true rfl) ?_
  exact W.zret (v := 0) hx hb hr (by decide) (fun t ht hW => ⟨⟨0, (), rfl, rfl, ⟨by rw [ht]; exact hP9, va_K.moved hW.alike hK9, hD9⟩⟩, hS.F ht⟩) hS.2.2 dX10_setLoose_14
set_option maxHeartbeats 4000000 in
set_option maxRecDepth 100000 in
theorem y_read (l : Launch) (dC : Nat → ClassId) (dI : Nat → Nat → Nat) (sz : Nat) (h0 : Nat) (a : Nat) (v0 : Value) (v2 : Value) (v3 : Value) (v4 : Value) (w0 : Value) (w1 : Value) (th : Int32) (p0 : Int32) (p1 : Int32) : Met l yX10_read (pw_ws yX10_read cX10_read 3 (some .int)) ({ frames := 3, cells := 0, slots := 0, locals := 63 } : Room) (va_Pc [.ref h0, .int p0, .int p1] (fun U => U.heap.size = sz ∧ va_P (dC, dI) vwCl [(h0, .inr (15, [v0, .ref a, v2, v3, v4, .int th])), (a, .inr (4, [w0, w1, .int 0]))] U.heap ∧ va_K (dC, dI) vwCl [] U ∧ va_D (fun _ => True) [(h0, .inr (15, [v0, .ref a, v2, v3, v4, .int th])), (a, .inr (4, [w0, w1, .int 0]))])) (va_Qi (fun (r : Int32) (_ : Unit) => r = 0) (fun (_ : Unit) (t : State) => va_P (dC, dI) vwCl [(h0, .inr (15, [v0, .ref a, v2, v3, v4, .int 1])), (a, .inr (4, [w0, w1, .int 0]))] t.heap ∧ va_K (dC, dI) vwCl [] t ∧ va_D (va_A [(h0, .inr (15, [v0, .ref a, v2, v3, v4, .int th])), (a, .inr (4, [w0, w1, .int 0]))] sz) [(h0, .inr (15, [v0, .ref a, v2, v3, v4, .int 1])), (a, .inr (4, [w0, w1, .int 0]))]) (va_A [(h0, .inr (15, [v0, .ref a, v2, v3, v4, .int th])), (a, .inr (4, [w0, w1, .int 0]))] sz)) 0 0 (va_A [(h0, .inr (15, [v0, .ref a, v2, v3, v4, .int th])), (a, .inr (4, [w0, w1, .int 0]))] sz) := by
  refine Met.ofW (cc := cX10_read) (maxL := 3) (ret := (some .int)) (by decide) rfl ?_
  intro p e s m args below meth c s₁ B hml hv
  obtain ⟨rfl, hsz, hP, hK, hD0⟩ := hv
  have hx := B.exec
  have hb := B.bytes
  have hr := B.returns
  have hts0 := atoms_spec (ws := (pw_ws yX10_read cX10_read 3 (some .int))) B.pre
  have hts : ∀ w ∈ pw_all, w.before _ s = true := fun w h => hts0 w (List.mem_cons_of_mem _ h)
  have hown : s.vm.findClass RX10 = some m.cls := findClass_of_methodNamed B.named
  have hlocks := B.notSynchronized
  subst hsz
  have hD := hD0.self (sz := s.heap.size)
  generalize hAe : va_A [(h0, .inr (15, [v0, .ref a, v2, v3, v4, .int th])), (a, .inr (4, [w0, w1, .int 0]))] s.heap.size = A at hD ⊢
  have hA : ∀ q : Nat, s.heap.size ≤ q → A q := fun q h => by rw [← hAe]; exact Or.inr h
  have hS : va_S A s.heap s.heap [] := va_S.rf
  have hP : va_P (dC, dI) vwCl [(h0, .inr (15, [v0, .ref a, v2, v3, v4, .int th])), (a, .inr (4, [w0, w1, .int 0]))] s.heap := hP
  have hl := lv_entry ([.ref h0, .int p0, .int p1]) (n := 3) (Nat.le_of_ble_eq_true rfl)
  rw [lg_entry_eq]
  generalize (lg_sl ([.ref h0, .int p0, .int p1]) ++ List.replicate (3 - (lg_sl ([.ref h0, .int p0, .int p1])).length) Slot.unset).toArray = ls at hl ⊢
  have hl : lv_has ls 3 [(0, .ref h0), (1, .int p0), (2, .int p1)] := hl
  skip
  refine lv_aload_n hx hb dX10_read_0 rfl (lv_at hl 0 rfl) ?_
  refine lv_aload_n hx hb dX10_read_1 rfl (lv_at hl 0 rfl) ?_
  refine lv_iload_n hx hb dX10_read_2 rfl (lv_at hl 1 rfl) ?_
  have hPc := hP.sub (ws' := [(h0, .inr (15, [v0, .ref a, v2, v3, v4, .int th])), (a, .inr (4, [w0, w1, .int 0]))]) [0, 1] rfl
  have hDc := hD.sub (ws' := [(h0, .inr (15, [v0, .ref a, v2, v3, v4, .int th])), (a, .inr (4, [w0, w1, .int 0]))]) [0, 1] (by decide) rfl
  have hKc := hK.sub (tys' := []) [] rfl
  have hFc := va_free (wc := [(h0, .inr (15, [v0, .ref a, v2, v3, v4, .int th])), (a, .inr (4, [w0, w1, .int 0]))]) hD hS hA [0, 1] rfl
  refine va_calli (va_runV (As := [.int p0]) (rest := [.ref h0]) ⟨hx, hb, hml, hown, hts⟩ (n_isNoSensor l dC dI s.heap.size h0 a v0 v2 v3 v4 (.int th) w0 w1 p0) (cwV 1 hts (pw_V q1410 q1412 q26 q49 q1413) rfl rfl rfl (by decide +kernel) ⟨(Nat.le_of_ble_eq_true rfl), (Nat.le_of_ble_eq_true rfl)⟩) ⟨fun a U g mk q => by obtain ⟨q0, q1, qP, qK, qD⟩ := q; exact ⟨q0, q1, qP, va_K.moved (u := U) (U := U.calling g mk a) (Vm.Alike.refl U.vm) qK, qD⟩, va_recv hKc hPc (ci := 15) (q0 := 0) rfl rfl, fun U hU hW => ⟨rfl, by rw [hU], by rw [hU]; exact hPc, va_K.moved hW.alike hKc, hDc.weaken (fun _ _ _ _ => trivial)⟩⟩ rfl rfl hl.1 rfl (lv_room (Nat.le_of_ble_eq_true rfl)) dX10_read_3 ⟨(Nat.le_of_ble_eq_true rfl), (Nat.le_of_ble_eq_true rfl)⟩) hS (fun q _ h => hFc q h) hFc (fun r_308 u t H1 locs ht hvm hw hB hz1 hk1 hS => ?_)
  obtain ⟨hP1, hK1, hD1⟩ := hB
  rw [ht] at hP1
  have hK1 := va_K.moved hvm.symm hK1
  obtain ⟨hP, hD⟩ := va_join (wr := []) (w1 := [(h0, .inr (15, [v0, .ref a, v2, v3, v4, .int th])), (a, .inr (4, [w0, w1, .int 0]))]) hP hD [0, 1] [] rfl rfl (by decide) (by decide) hk1 hFc hP1 hD1
  have hK := (hK.sub (tys' := []) [] rfl).app hK1
  generalize H1 = H at hP hS ⊢
  have hP : va_P (dC, dI) vwCl [(h0, .inr (15, [v0, .ref a, v2, v3, v4, .int th])), (a, .inr (4, [w0, w1, .int 0]))] H := hP
  have hD : va_D A [(h0, .inr (15, [v0, .ref a, v2, v3, v4, .int th])), (a, .inr (4, [w0, w1, .int 0]))] := hD
  have hK : va_K (dC, dI) vwCl [] s := hK
  refine W.widen (k := 0) (n := 0) (Nat.le_of_ble_eq_true rfl) (Nat.le_of_ble_eq_true rfl) ?_
  have hw : r_308 = 1 := hw
  subst hw
  refine lv_iconst (v := 1) hx hb dX10_read_6 (by decide) ?_
  have hPc := hP.sub (ws' := [(h0, .inr (15, [v0, .ref a, v2, v3, v4, .int th]))]) [0] rfl
  have hDc := hD.sub (ws' := [(h0, .inr (15, [v0, .ref a, v2, v3, v4, .int th]))]) [0] (by decide) rfl
  have hKc := hK.sub (tys' := []) [] rfl
  have hFc := va_free (wc := [(h0, .inr (15, [v0, .ref a, v2, v3, v4, .int th]))]) hD hS hA [0] rfl
  refine va_calli (va_runV (As := [.int 1, .int 1]) (rest := []) ⟨hx, hb, hml, hown, hts⟩ (n_isThrown1 l dC dI H.size h0 v0 (.ref a) v2 v3 v4 th 1) (cwV 2 hts (pw_V q1253 q1255 q19 q49 q1256) rfl rfl rfl (by decide +kernel) ⟨(Nat.le_of_ble_eq_true rfl), (Nat.le_of_ble_eq_true rfl)⟩) ⟨fun a U g mk q => by obtain ⟨q0, q1, qP, qK, qD⟩ := q; exact ⟨q0, q1, qP, va_K.moved (u := U) (U := U.calling g mk a) (Vm.Alike.refl U.vm) qK, qD⟩, va_recv hKc hPc (ci := 15) (q0 := 0) rfl rfl, fun U hU hW => ⟨rfl, by rw [hU], by rw [hU]; exact hPc, va_K.moved hW.alike hKc, hDc.weaken (fun _ _ _ _ => trivial)⟩⟩ rfl rfl hl.1 rfl (lv_room (Nat.le_of_ble_eq_true rfl)) dX10_read_7 ⟨(Nat.le_of_ble_eq_true rfl), (Nat.le_of_ble_eq_true rfl)⟩) hS (fun q _ h => hFc q h) hFc (fun r_309 u t H1 locs ht hvm hw hB hz1 hk1 hS => ?_)
  obtain ⟨hP1, hK1, hD1⟩ := hB
  rw [ht] at hP1
  have hK1 := va_K.moved hvm.symm hK1
  obtain ⟨hP, hD⟩ := va_join (wr := [(a, .inr (4, [w0, w1, .int 0]))]) (w1 := [(h0, .inr (15, [v0, .ref a, v2, v3, v4, .int 1]))]) hP hD [0] [1] rfl rfl (by decide) (by decide) hk1 hFc hP1 hD1
  have hK := (hK.sub (tys' := []) [] rfl).app hK1
  generalize H1 = H at hP hS ⊢
  have hP : va_P (dC, dI) vwCl [(a, .inr (4, [w0, w1, .int 0])), (h0, .inr (15, [v0, .ref a, v2, v3, v4, .int 1]))] H := hP
  have hD : va_D A [(a, .inr (4, [w0, w1, .int 0])), (h0, .inr (15, [v0, .ref a, v2, v3, v4, .int 1]))] := hD
  have hK : va_K (dC, dI) vwCl [] s := hK
  refine W.widen (k := 0) (n := 0) (Nat.le_of_ble_eq_true rfl) (Nat.le_of_ble_eq_true rfl) ?_
  have hw : r_309 = 1 := hw
  subst hw
  refine lv_if_ne (tgt := 36) hx hb dX10_read_10 (by decide) (fun c_310 => ?_) (fun c_310 => absurd c_310 (by decide))
  refine lv_iconst (v := 0) hx hb dX10_read_36 (by decide) ?_
  refine lv_goto (tgt := 46) hx hb dX10_read_37 (by decide) ?_
  have hP9 := hP.sub (ws' := [(h0, .inr (15, [v0, .ref a, v2, v3, v4, .int 1])), (a, .inr (4, [w0, w1, .int 0]))]) [1, 0] rfl
  have hD9 := hD.sub (ws' := [(h0, .inr (15, [v0, .ref a, v2, v3, v4, .int 1])), (a, .inr (4, [w0, w1, .int 0]))]) [1, 0] (by decide) rfl
  have hK9 := hK.sub (tys' := []) [] rfl
  refine W.widen (k := 0) (n := 0) (Nat.le_of_ble_eq_true rfl) (Nat.le_of_ble_eq_true rfl) ?_
  exact W.iret (v := 0) hx hb hr (fun t ht hW => ⟨⟨0, (), rfl, rfl, ⟨by rw [ht]; exact hP9, va_K.moved hW.alike hK9, hD9⟩⟩, hS.F ht⟩) hS.2.2 dX10_read_46
set_option maxHeartbeats 4000000 in
set_option maxRecDepth 100000 in
theorem y_setLevel (l : Launch) (dC : Nat → ClassId) (dI : Nat → Nat → Nat) (sz : Nat) (h0 : Nat) (a : Nat) (v0 : Value) (v1 : Value) (v3 : Value) (v4 : Value) (w0 : Value) (w1 : Value) (th : Int32) (p0 : Int32) (p1 : Int32) (p2 : Int32) : Met l yX10_setLevel (pw_ws yX10_setLevel cX10_setLevel 4 (some .int)) ({ frames := 3, cells := 0, slots := 0, locals := 63 } : Room) (va_Pc [.ref h0, .int p0, .int p1, .int p2] (fun U => U.heap.size = sz ∧ va_P (dC, dI) vwCl [(h0, .inr (15, [v0, v1, .ref a, v3, v4, .int th])), (a, .inr (4, [w0, w1, .int 0]))] U.heap ∧ va_K (dC, dI) vwCl [] U ∧ va_D (fun _ => True) [(h0, .inr (15, [v0, v1, .ref a, v3, v4, .int th])), (a, .inr (4, [w0, w1, .int 0]))])) (va_Qi (fun (r : Int32) (_ : Unit) => r = 0) (fun (_ : Unit) (t : State) => va_P (dC, dI) vwCl [(h0, .inr (15, [v0, v1, .ref a, v3, v4, .int 1])), (a, .inr (4, [w0, w1, .int 0]))] t.heap ∧ va_K (dC, dI) vwCl [] t ∧ va_D (va_A [(h0, .inr (15, [v0, v1, .ref a, v3, v4, .int th])), (a, .inr (4, [w0, w1, .int 0]))] sz) [(h0, .inr (15, [v0, v1, .ref a, v3, v4, .int 1])), (a, .inr (4, [w0, w1, .int 0]))]) (va_A [(h0, .inr (15, [v0, v1, .ref a, v3, v4, .int th])), (a, .inr (4, [w0, w1, .int 0]))] sz)) 0 0 (va_A [(h0, .inr (15, [v0, v1, .ref a, v3, v4, .int th])), (a, .inr (4, [w0, w1, .int 0]))] sz) := by
  refine Met.ofW (cc := cX10_setLevel) (maxL := 4) (ret := (some .int)) (by decide) rfl ?_
  intro p e s m args below meth c s₁ B hml hv
  obtain ⟨rfl, hsz, hP, hK, hD0⟩ := hv
  have hx := B.exec
  have hb := B.bytes
  have hr := B.returns
  have hts0 := atoms_spec (ws := (pw_ws yX10_setLevel cX10_setLevel 4 (some .int))) B.pre
  have hts : ∀ w ∈ pw_all, w.before _ s = true := fun w h => hts0 w (List.mem_cons_of_mem _ h)
  have hown : s.vm.findClass RX10 = some m.cls := findClass_of_methodNamed B.named
  have hlocks := B.notSynchronized
  subst hsz
  have hD := hD0.self (sz := s.heap.size)
  generalize hAe : va_A [(h0, .inr (15, [v0, v1, .ref a, v3, v4, .int th])), (a, .inr (4, [w0, w1, .int 0]))] s.heap.size = A at hD ⊢
  have hA : ∀ q : Nat, s.heap.size ≤ q → A q := fun q h => by rw [← hAe]; exact Or.inr h
  have hS : va_S A s.heap s.heap [] := va_S.rf
  have hP : va_P (dC, dI) vwCl [(h0, .inr (15, [v0, v1, .ref a, v3, v4, .int th])), (a, .inr (4, [w0, w1, .int 0]))] s.heap := hP
  have hl := lv_entry ([.ref h0, .int p0, .int p1, .int p2]) (n := 4) (Nat.le_of_ble_eq_true rfl)
  rw [lg_entry_eq]
  generalize (lg_sl ([.ref h0, .int p0, .int p1, .int p2]) ++ List.replicate (4 - (lg_sl ([.ref h0, .int p0, .int p1, .int p2])).length) Slot.unset).toArray = ls at hl ⊢
  have hl : lv_has ls 4 [(0, .ref h0), (1, .int p0), (2, .int p1), (3, .int p2)] := hl
  skip
  refine lv_aload_n hx hb dX10_setLevel_0 rfl (lv_at hl 0 rfl) ?_
  refine lv_aload_n hx hb dX10_setLevel_1 rfl (lv_at hl 0 rfl) ?_
  refine lv_iload_n hx hb dX10_setLevel_2 rfl (lv_at hl 1 rfl) ?_
  have hPc := hP.sub (ws' := [(h0, .inr (15, [v0, v1, .ref a, v3, v4, .int th])), (a, .inr (4, [w0, w1, .int 0]))]) [0, 1] rfl
  have hDc := hD.sub (ws' := [(h0, .inr (15, [v0, v1, .ref a, v3, v4, .int th])), (a, .inr (4, [w0, w1, .int 0]))]) [0, 1] (by decide) rfl
  have hKc := hK.sub (tys' := []) [] rfl
  have hFc := va_free (wc := [(h0, .inr (15, [v0, v1, .ref a, v3, v4, .int th])), (a, .inr (4, [w0, w1, .int 0]))]) hD hS hA [0, 1] rfl
  refine va_calli (va_runV (As := [.int p0]) (rest := [.ref h0]) ⟨hx, hb, hml, hown, hts⟩ (n_isNoSpecification l dC dI s.heap.size h0 a v0 v1 v3 v4 (.int th) w0 w1 p0) (cwV 1 hts (pw_V q1436 q1438 q28 q49 q1439) rfl rfl rfl (by decide +kernel) ⟨(Nat.le_of_ble_eq_true rfl), (Nat.le_of_ble_eq_true rfl)⟩) ⟨fun a U g mk q => by obtain ⟨q0, q1, qP, qK, qD⟩ := q; exact ⟨q0, q1, qP, va_K.moved (u := U) (U := U.calling g mk a) (Vm.Alike.refl U.vm) qK, qD⟩, va_recv hKc hPc (ci := 15) (q0 := 0) rfl rfl, fun U hU hW => ⟨rfl, by rw [hU], by rw [hU]; exact hPc, va_K.moved hW.alike hKc, hDc.weaken (fun _ _ _ _ => trivial)⟩⟩ rfl rfl hl.1 rfl (lv_room (Nat.le_of_ble_eq_true rfl)) dX10_setLevel_3 ⟨(Nat.le_of_ble_eq_true rfl), (Nat.le_of_ble_eq_true rfl)⟩) hS (fun q _ h => hFc q h) hFc (fun r_311 u t H1 locs ht hvm hw hB hz1 hk1 hS => ?_)
  obtain ⟨hP1, hK1, hD1⟩ := hB
  rw [ht] at hP1
  have hK1 := va_K.moved hvm.symm hK1
  obtain ⟨hP, hD⟩ := va_join (wr := []) (w1 := [(h0, .inr (15, [v0, v1, .ref a, v3, v4, .int th])), (a, .inr (4, [w0, w1, .int 0]))]) hP hD [0, 1] [] rfl rfl (by decide) (by decide) hk1 hFc hP1 hD1
  have hK := (hK.sub (tys' := []) [] rfl).app hK1
  generalize H1 = H at hP hS ⊢
  have hP : va_P (dC, dI) vwCl [(h0, .inr (15, [v0, v1, .ref a, v3, v4, .int th])), (a, .inr (4, [w0, w1, .int 0]))] H := hP
  have hD : va_D A [(h0, .inr (15, [v0, v1, .ref a, v3, v4, .int th])), (a, .inr (4, [w0, w1, .int 0]))] := hD
  have hK : va_K (dC, dI) vwCl [] s := hK
  refine W.widen (k := 0) (n := 0) (Nat.le_of_ble_eq_true rfl) (Nat.le_of_ble_eq_true rfl) ?_
  have hw : r_311 = 1 := hw
  subst hw
  refine lv_iconst (v := 1) hx hb dX10_setLevel_6 (by decide) ?_
  have hPc := hP.sub (ws' := [(h0, .inr (15, [v0, v1, .ref a, v3, v4, .int th]))]) [0] rfl
  have hDc := hD.sub (ws' := [(h0, .inr (15, [v0, v1, .ref a, v3, v4, .int th]))]) [0] (by decide) rfl
  have hKc := hK.sub (tys' := []) [] rfl
  have hFc := va_free (wc := [(h0, .inr (15, [v0, v1, .ref a, v3, v4, .int th]))]) hD hS hA [0] rfl
  refine va_calli (va_runV (As := [.int 1, .int 1]) (rest := []) ⟨hx, hb, hml, hown, hts⟩ (n_isThrown1 l dC dI H.size h0 v0 v1 (.ref a) v3 v4 th 1) (cwV 2 hts (pw_V q1253 q1255 q19 q49 q1256) rfl rfl rfl (by decide +kernel) ⟨(Nat.le_of_ble_eq_true rfl), (Nat.le_of_ble_eq_true rfl)⟩) ⟨fun a U g mk q => by obtain ⟨q0, q1, qP, qK, qD⟩ := q; exact ⟨q0, q1, qP, va_K.moved (u := U) (U := U.calling g mk a) (Vm.Alike.refl U.vm) qK, qD⟩, va_recv hKc hPc (ci := 15) (q0 := 0) rfl rfl, fun U hU hW => ⟨rfl, by rw [hU], by rw [hU]; exact hPc, va_K.moved hW.alike hKc, hDc.weaken (fun _ _ _ _ => trivial)⟩⟩ rfl rfl hl.1 rfl (lv_room (Nat.le_of_ble_eq_true rfl)) dX10_setLevel_7 ⟨(Nat.le_of_ble_eq_true rfl), (Nat.le_of_ble_eq_true rfl)⟩) hS (fun q _ h => hFc q h) hFc (fun r_312 u t H1 locs ht hvm hw hB hz1 hk1 hS => ?_)
  obtain ⟨hP1, hK1, hD1⟩ := hB
  rw [ht] at hP1
  have hK1 := va_K.moved hvm.symm hK1
  obtain ⟨hP, hD⟩ := va_join (wr := [(a, .inr (4, [w0, w1, .int 0]))]) (w1 := [(h0, .inr (15, [v0, v1, .ref a, v3, v4, .int 1]))]) hP hD [0] [1] rfl rfl (by decide) (by decide) hk1 hFc hP1 hD1
  have hK := (hK.sub (tys' := []) [] rfl).app hK1
  generalize H1 = H at hP hS ⊢
  have hP : va_P (dC, dI) vwCl [(a, .inr (4, [w0, w1, .int 0])), (h0, .inr (15, [v0, v1, .ref a, v3, v4, .int 1]))] H := hP
  have hD : va_D A [(a, .inr (4, [w0, w1, .int 0])), (h0, .inr (15, [v0, v1, .ref a, v3, v4, .int 1]))] := hD
  have hK : va_K (dC, dI) vwCl [] s := hK
  refine W.widen (k := 0) (n := 0) (Nat.le_of_ble_eq_true rfl) (Nat.le_of_ble_eq_true rfl) ?_
  have hw : r_312 = 1 := hw
  subst hw
  refine lv_if_ne (tgt := 43) hx hb dX10_setLevel_10 (by decide) (fun c_313 => ?_) (fun c_313 => absurd c_313 (by decide))
  refine lv_iconst (v := 0) hx hb dX10_setLevel_43 (by decide) ?_
  refine lv_goto (tgt := 55) hx hb dX10_setLevel_44 (by decide) ?_
  have hP9 := hP.sub (ws' := [(h0, .inr (15, [v0, v1, .ref a, v3, v4, .int 1])), (a, .inr (4, [w0, w1, .int 0]))]) [1, 0] rfl
  have hD9 := hD.sub (ws' := [(h0, .inr (15, [v0, v1, .ref a, v3, v4, .int 1])), (a, .inr (4, [w0, w1, .int 0]))]) [1, 0] (by decide) rfl
  have hK9 := hK.sub (tys' := []) [] rfl
  refine W.widen (k := 0) (n := 0) (Nat.le_of_ble_eq_true rfl) (Nat.le_of_ble_eq_true rfl) ?_
  exact W.iret (v := 0) hx hb hr (fun t ht hW => ⟨⟨0, (), rfl, rfl, ⟨by rw [ht]; exact hP9, va_K.moved hW.alike hK9, hD9⟩⟩, hS.F ht⟩) hS.2.2 dX10_setLevel_55
set_option maxHeartbeats 4000000 in
set_option maxRecDepth 100000 in
theorem y_setTolerance (l : Launch) (dC : Nat → ClassId) (dI : Nat → Nat → Nat) (sz : Nat) (h0 : Nat) (a : Nat) (v0 : Value) (v1 : Value) (v3 : Value) (v4 : Value) (w0 : Value) (w1 : Value) (th : Int32) (p0 : Int32) (p1 : Int32) (p2 : Int32) : Met l yX10_setTolerance (pw_ws yX10_setTolerance cX10_setTolerance 4 (some .int)) ({ frames := 3, cells := 0, slots := 0, locals := 63 } : Room) (va_Pc [.ref h0, .int p0, .int p1, .int p2] (fun U => U.heap.size = sz ∧ va_P (dC, dI) vwCl [(h0, .inr (15, [v0, v1, .ref a, v3, v4, .int th])), (a, .inr (4, [w0, w1, .int 0]))] U.heap ∧ va_K (dC, dI) vwCl [] U ∧ va_D (fun _ => True) [(h0, .inr (15, [v0, v1, .ref a, v3, v4, .int th])), (a, .inr (4, [w0, w1, .int 0]))])) (va_Qi (fun (r : Int32) (_ : Unit) => r = 0) (fun (_ : Unit) (t : State) => va_P (dC, dI) vwCl [(h0, .inr (15, [v0, v1, .ref a, v3, v4, .int 1])), (a, .inr (4, [w0, w1, .int 0]))] t.heap ∧ va_K (dC, dI) vwCl [] t ∧ va_D (va_A [(h0, .inr (15, [v0, v1, .ref a, v3, v4, .int th])), (a, .inr (4, [w0, w1, .int 0]))] sz) [(h0, .inr (15, [v0, v1, .ref a, v3, v4, .int 1])), (a, .inr (4, [w0, w1, .int 0]))]) (va_A [(h0, .inr (15, [v0, v1, .ref a, v3, v4, .int th])), (a, .inr (4, [w0, w1, .int 0]))] sz)) 0 0 (va_A [(h0, .inr (15, [v0, v1, .ref a, v3, v4, .int th])), (a, .inr (4, [w0, w1, .int 0]))] sz) := by
  refine Met.ofW (cc := cX10_setTolerance) (maxL := 4) (ret := (some .int)) (by decide) rfl ?_
  intro p e s m args below meth c s₁ B hml hv
  obtain ⟨rfl, hsz, hP, hK, hD0⟩ := hv
  have hx := B.exec
  have hb := B.bytes
  have hr := B.returns
  have hts0 := atoms_spec (ws := (pw_ws yX10_setTolerance cX10_setTolerance 4 (some .int))) B.pre
  have hts : ∀ w ∈ pw_all, w.before _ s = true := fun w h => hts0 w (List.mem_cons_of_mem _ h)
  have hown : s.vm.findClass RX10 = some m.cls := findClass_of_methodNamed B.named
  have hlocks := B.notSynchronized
  subst hsz
  have hD := hD0.self (sz := s.heap.size)
  generalize hAe : va_A [(h0, .inr (15, [v0, v1, .ref a, v3, v4, .int th])), (a, .inr (4, [w0, w1, .int 0]))] s.heap.size = A at hD ⊢
  have hA : ∀ q : Nat, s.heap.size ≤ q → A q := fun q h => by rw [← hAe]; exact Or.inr h
  have hS : va_S A s.heap s.heap [] := va_S.rf
  have hP : va_P (dC, dI) vwCl [(h0, .inr (15, [v0, v1, .ref a, v3, v4, .int th])), (a, .inr (4, [w0, w1, .int 0]))] s.heap := hP
  have hl := lv_entry ([.ref h0, .int p0, .int p1, .int p2]) (n := 4) (Nat.le_of_ble_eq_true rfl)
  rw [lg_entry_eq]
  generalize (lg_sl ([.ref h0, .int p0, .int p1, .int p2]) ++ List.replicate (4 - (lg_sl ([.ref h0, .int p0, .int p1, .int p2])).length) Slot.unset).toArray = ls at hl ⊢
  have hl : lv_has ls 4 [(0, .ref h0), (1, .int p0), (2, .int p1), (3, .int p2)] := hl
  skip
  refine lv_aload_n hx hb dX10_setTolerance_0 rfl (lv_at hl 0 rfl) ?_
  refine lv_aload_n hx hb dX10_setTolerance_1 rfl (lv_at hl 0 rfl) ?_
  refine lv_iload_n hx hb dX10_setTolerance_2 rfl (lv_at hl 1 rfl) ?_
  have hPc := hP.sub (ws' := [(h0, .inr (15, [v0, v1, .ref a, v3, v4, .int th])), (a, .inr (4, [w0, w1, .int 0]))]) [0, 1] rfl
  have hDc := hD.sub (ws' := [(h0, .inr (15, [v0, v1, .ref a, v3, v4, .int th])), (a, .inr (4, [w0, w1, .int 0]))]) [0, 1] (by decide) rfl
  have hKc := hK.sub (tys' := []) [] rfl
  have hFc := va_free (wc := [(h0, .inr (15, [v0, v1, .ref a, v3, v4, .int th])), (a, .inr (4, [w0, w1, .int 0]))]) hD hS hA [0, 1] rfl
  refine va_calli (va_runV (As := [.int p0]) (rest := [.ref h0]) ⟨hx, hb, hml, hown, hts⟩ (n_isNoSpecification l dC dI s.heap.size h0 a v0 v1 v3 v4 (.int th) w0 w1 p0) (cwV 1 hts (pw_V q1436 q1438 q28 q49 q1439) rfl rfl rfl (by decide +kernel) ⟨(Nat.le_of_ble_eq_true rfl), (Nat.le_of_ble_eq_true rfl)⟩) ⟨fun a U g mk q => by obtain ⟨q0, q1, qP, qK, qD⟩ := q; exact ⟨q0, q1, qP, va_K.moved (u := U) (U := U.calling g mk a) (Vm.Alike.refl U.vm) qK, qD⟩, va_recv hKc hPc (ci := 15) (q0 := 0) rfl rfl, fun U hU hW => ⟨rfl, by rw [hU], by rw [hU]; exact hPc, va_K.moved hW.alike hKc, hDc.weaken (fun _ _ _ _ => trivial)⟩⟩ rfl rfl hl.1 rfl (lv_room (Nat.le_of_ble_eq_true rfl)) dX10_setTolerance_3 ⟨(Nat.le_of_ble_eq_true rfl), (Nat.le_of_ble_eq_true rfl)⟩) hS (fun q _ h => hFc q h) hFc (fun r_314 u t H1 locs ht hvm hw hB hz1 hk1 hS => ?_)
  obtain ⟨hP1, hK1, hD1⟩ := hB
  rw [ht] at hP1
  have hK1 := va_K.moved hvm.symm hK1
  obtain ⟨hP, hD⟩ := va_join (wr := []) (w1 := [(h0, .inr (15, [v0, v1, .ref a, v3, v4, .int th])), (a, .inr (4, [w0, w1, .int 0]))]) hP hD [0, 1] [] rfl rfl (by decide) (by decide) hk1 hFc hP1 hD1
  have hK := (hK.sub (tys' := []) [] rfl).app hK1
  generalize H1 = H at hP hS ⊢
  have hP : va_P (dC, dI) vwCl [(h0, .inr (15, [v0, v1, .ref a, v3, v4, .int th])), (a, .inr (4, [w0, w1, .int 0]))] H := hP
  have hD : va_D A [(h0, .inr (15, [v0, v1, .ref a, v3, v4, .int th])), (a, .inr (4, [w0, w1, .int 0]))] := hD
  have hK : va_K (dC, dI) vwCl [] s := hK
  refine W.widen (k := 0) (n := 0) (Nat.le_of_ble_eq_true rfl) (Nat.le_of_ble_eq_true rfl) ?_
  have hw : r_314 = 1 := hw
  subst hw
  refine lv_iconst (v := 1) hx hb dX10_setTolerance_6 (by decide) ?_
  have hPc := hP.sub (ws' := [(h0, .inr (15, [v0, v1, .ref a, v3, v4, .int th]))]) [0] rfl
  have hDc := hD.sub (ws' := [(h0, .inr (15, [v0, v1, .ref a, v3, v4, .int th]))]) [0] (by decide) rfl
  have hKc := hK.sub (tys' := []) [] rfl
  have hFc := va_free (wc := [(h0, .inr (15, [v0, v1, .ref a, v3, v4, .int th]))]) hD hS hA [0] rfl
  refine va_calli (va_runV (As := [.int 1, .int 1]) (rest := []) ⟨hx, hb, hml, hown, hts⟩ (n_isThrown1 l dC dI H.size h0 v0 v1 (.ref a) v3 v4 th 1) (cwV 2 hts (pw_V q1253 q1255 q19 q49 q1256) rfl rfl rfl (by decide +kernel) ⟨(Nat.le_of_ble_eq_true rfl), (Nat.le_of_ble_eq_true rfl)⟩) ⟨fun a U g mk q => by obtain ⟨q0, q1, qP, qK, qD⟩ := q; exact ⟨q0, q1, qP, va_K.moved (u := U) (U := U.calling g mk a) (Vm.Alike.refl U.vm) qK, qD⟩, va_recv hKc hPc (ci := 15) (q0 := 0) rfl rfl, fun U hU hW => ⟨rfl, by rw [hU], by rw [hU]; exact hPc, va_K.moved hW.alike hKc, hDc.weaken (fun _ _ _ _ => trivial)⟩⟩ rfl rfl hl.1 rfl (lv_room (Nat.le_of_ble_eq_true rfl)) dX10_setTolerance_7 ⟨(Nat.le_of_ble_eq_true rfl), (Nat.le_of_ble_eq_true rfl)⟩) hS (fun q _ h => hFc q h) hFc (fun r_315 u t H1 locs ht hvm hw hB hz1 hk1 hS => ?_)
  obtain ⟨hP1, hK1, hD1⟩ := hB
  rw [ht] at hP1
  have hK1 := va_K.moved hvm.symm hK1
  obtain ⟨hP, hD⟩ := va_join (wr := [(a, .inr (4, [w0, w1, .int 0]))]) (w1 := [(h0, .inr (15, [v0, v1, .ref a, v3, v4, .int 1]))]) hP hD [0] [1] rfl rfl (by decide) (by decide) hk1 hFc hP1 hD1
  have hK := (hK.sub (tys' := []) [] rfl).app hK1
  generalize H1 = H at hP hS ⊢
  have hP : va_P (dC, dI) vwCl [(a, .inr (4, [w0, w1, .int 0])), (h0, .inr (15, [v0, v1, .ref a, v3, v4, .int 1]))] H := hP
  have hD : va_D A [(a, .inr (4, [w0, w1, .int 0])), (h0, .inr (15, [v0, v1, .ref a, v3, v4, .int 1]))] := hD
  have hK : va_K (dC, dI) vwCl [] s := hK
  refine W.widen (k := 0) (n := 0) (Nat.le_of_ble_eq_true rfl) (Nat.le_of_ble_eq_true rfl) ?_
  have hw : r_315 = 1 := hw
  subst hw
  refine lv_if_ne (tgt := 43) hx hb dX10_setTolerance_10 (by decide) (fun c_316 => ?_) (fun c_316 => absurd c_316 (by decide))
  refine lv_iconst (v := 0) hx hb dX10_setTolerance_43 (by decide) ?_
  refine lv_goto (tgt := 55) hx hb dX10_setTolerance_44 (by decide) ?_
  have hP9 := hP.sub (ws' := [(h0, .inr (15, [v0, v1, .ref a, v3, v4, .int 1])), (a, .inr (4, [w0, w1, .int 0]))]) [1, 0] rfl
  have hD9 := hD.sub (ws' := [(h0, .inr (15, [v0, v1, .ref a, v3, v4, .int 1])), (a, .inr (4, [w0, w1, .int 0]))]) [1, 0] (by decide) rfl
  have hK9 := hK.sub (tys' := []) [] rfl
  refine W.widen (k := 0) (n := 0) (Nat.le_of_ble_eq_true rfl) (Nat.le_of_ble_eq_true rfl) ?_
  exact W.iret (v := 0) hx hb hr (fun t ht hW => ⟨⟨0, (), rfl, rfl, ⟨by rw [ht]; exact hP9, va_K.moved hW.alike hK9, hD9⟩⟩, hS.F ht⟩) hS.2.2 dX10_setTolerance_55
set_option maxHeartbeats 4000000 in
set_option maxRecDepth 100000 in
theorem y_addControl (l : Launch) (dC : Nat → ClassId) (dI : Nat → Nat → Nat) (sz : Nat) (h0 : Nat) (a : Nat) (v0 : Value) (v1 : Value) (v2 : Value) (v4 : Value) (w0 : Value) (w1 : Value) (th : Int32) (p0 : Int32) (p1 : Int32) (p2 : Int32) : Met l yX10_addControl (pw_ws yX10_addControl cX10_addControl 8 (some .int)) ({ frames := 3, cells := 0, slots := 0, locals := 63 } : Room) (va_Pc [.ref h0, .int p0, .int p1, .int p2] (fun U => U.heap.size = sz ∧ va_P (dC, dI) vwCl [(h0, .inr (15, [v0, v1, v2, .ref a, v4, .int th])), (a, .inr (4, [w0, w1, .int 0]))] U.heap ∧ va_K (dC, dI) vwCl [] U ∧ va_D (fun _ => True) [(h0, .inr (15, [v0, v1, v2, .ref a, v4, .int th])), (a, .inr (4, [w0, w1, .int 0]))])) (va_Qi (fun (r : Int32) (_ : Unit) => r = 0) (fun (_ : Unit) (t : State) => va_P (dC, dI) vwCl [(h0, .inr (15, [v0, v1, v2, .ref a, v4, .int 1])), (a, .inr (4, [w0, w1, .int 0]))] t.heap ∧ va_K (dC, dI) vwCl [] t ∧ va_D (va_A [(h0, .inr (15, [v0, v1, v2, .ref a, v4, .int th])), (a, .inr (4, [w0, w1, .int 0]))] sz) [(h0, .inr (15, [v0, v1, v2, .ref a, v4, .int 1])), (a, .inr (4, [w0, w1, .int 0]))]) (va_A [(h0, .inr (15, [v0, v1, v2, .ref a, v4, .int th])), (a, .inr (4, [w0, w1, .int 0]))] sz)) 0 0 (va_A [(h0, .inr (15, [v0, v1, v2, .ref a, v4, .int th])), (a, .inr (4, [w0, w1, .int 0]))] sz) := by
  refine Met.ofW (cc := cX10_addControl) (maxL := 8) (ret := (some .int)) (by decide) rfl ?_
  intro p e s m args below meth c s₁ B hml hv
  obtain ⟨rfl, hsz, hP, hK, hD0⟩ := hv
  have hx := B.exec
  have hb := B.bytes
  have hr := B.returns
  have hts0 := atoms_spec (ws := (pw_ws yX10_addControl cX10_addControl 8 (some .int))) B.pre
  have hts : ∀ w ∈ pw_all, w.before _ s = true := fun w h => hts0 w (List.mem_cons_of_mem _ h)
  have hown : s.vm.findClass RX10 = some m.cls := findClass_of_methodNamed B.named
  have hlocks := B.notSynchronized
  subst hsz
  have hD := hD0.self (sz := s.heap.size)
  generalize hAe : va_A [(h0, .inr (15, [v0, v1, v2, .ref a, v4, .int th])), (a, .inr (4, [w0, w1, .int 0]))] s.heap.size = A at hD ⊢
  have hA : ∀ q : Nat, s.heap.size ≤ q → A q := fun q h => by rw [← hAe]; exact Or.inr h
  have hS : va_S A s.heap s.heap [] := va_S.rf
  have hP : va_P (dC, dI) vwCl [(h0, .inr (15, [v0, v1, v2, .ref a, v4, .int th])), (a, .inr (4, [w0, w1, .int 0]))] s.heap := hP
  have hl := lv_entry ([.ref h0, .int p0, .int p1, .int p2]) (n := 8) (Nat.le_of_ble_eq_true rfl)
  rw [lg_entry_eq]
  generalize (lg_sl ([.ref h0, .int p0, .int p1, .int p2]) ++ List.replicate (8 - (lg_sl ([.ref h0, .int p0, .int p1, .int p2])).length) Slot.unset).toArray = ls at hl ⊢
  have hl : lv_has ls 8 [(0, .ref h0), (1, .int p0), (2, .int p1), (3, .int p2)] := hl
  skip
  refine lv_aload_n hx hb dX10_addControl_0 rfl (lv_at hl 0 rfl) ?_
  refine lv_aload_n hx hb dX10_addControl_1 rfl (lv_at hl 0 rfl) ?_
  refine lv_iload_n hx hb dX10_addControl_2 rfl (lv_at hl 1 rfl) ?_
  have hPc := hP.sub (ws' := [(h0, .inr (15, [v0, v1, v2, .ref a, v4, .int th])), (a, .inr (4, [w0, w1, .int 0]))]) [0, 1] rfl
  have hDc := hD.sub (ws' := [(h0, .inr (15, [v0, v1, v2, .ref a, v4, .int th])), (a, .inr (4, [w0, w1, .int 0]))]) [0, 1] (by decide) rfl
  have hKc := hK.sub (tys' := []) [] rfl
  have hFc := va_free (wc := [(h0, .inr (15, [v0, v1, v2, .ref a, v4, .int th])), (a, .inr (4, [w0, w1, .int 0]))]) hD hS hA [0, 1] rfl
  refine va_calli (va_runV (As := [.int p0]) (rest := [.ref h0]) ⟨hx, hb, hml, hown, hts⟩ (n_isNoRun l dC dI s.heap.size h0 a v0 v1 v2 v4 (.int th) w0 w1 p0) (cwV 1 hts (pw_V q1518 q1520 q30 q49 q1521) rfl rfl rfl (by decide +kernel) ⟨(Nat.le_of_ble_eq_true rfl), (Nat.le_of_ble_eq_true rfl)⟩) ⟨fun a U g mk q => by obtain ⟨q0, q1, qP, qK, qD⟩ := q; exact ⟨q0, q1, qP, va_K.moved (u := U) (U := U.calling g mk a) (Vm.Alike.refl U.vm) qK, qD⟩, va_recv hKc hPc (ci := 15) (q0 := 0) rfl rfl, fun U hU hW => ⟨rfl, by rw [hU], by rw [hU]; exact hPc, va_K.moved hW.alike hKc, hDc.weaken (fun _ _ _ _ => trivial)⟩⟩ rfl rfl hl.1 rfl (lv_room (Nat.le_of_ble_eq_true rfl)) dX10_addControl_3 ⟨(Nat.le_of_ble_eq_true rfl), (Nat.le_of_ble_eq_true rfl)⟩) hS (fun q _ h => hFc q h) hFc (fun r_317 u t H1 locs ht hvm hw hB hz1 hk1 hS => ?_)
  obtain ⟨hP1, hK1, hD1⟩ := hB
  rw [ht] at hP1
  have hK1 := va_K.moved hvm.symm hK1
  obtain ⟨hP, hD⟩ := va_join (wr := []) (w1 := [(h0, .inr (15, [v0, v1, v2, .ref a, v4, .int th])), (a, .inr (4, [w0, w1, .int 0]))]) hP hD [0, 1] [] rfl rfl (by decide) (by decide) hk1 hFc hP1 hD1
  have hK := (hK.sub (tys' := []) [] rfl).app hK1
  generalize H1 = H at hP hS ⊢
  have hP : va_P (dC, dI) vwCl [(h0, .inr (15, [v0, v1, v2, .ref a, v4, .int th])), (a, .inr (4, [w0, w1, .int 0]))] H := hP
  have hD : va_D A [(h0, .inr (15, [v0, v1, v2, .ref a, v4, .int th])), (a, .inr (4, [w0, w1, .int 0]))] := hD
  have hK : va_K (dC, dI) vwCl [] s := hK
  refine W.widen (k := 0) (n := 0) (Nat.le_of_ble_eq_true rfl) (Nat.le_of_ble_eq_true rfl) ?_
  have hw : r_317 = 1 := hw
  subst hw
  refine lv_if_ne (tgt := 17) hx hb dX10_addControl_6 (by decide) (fun c_318 => ?_) (fun c_318 => absurd c_318 (by decide))
  refine lv_iconst (v := 1) hx hb dX10_addControl_17 (by decide) ?_
  refine lv_goto (tgt := 22) hx hb dX10_addControl_18 (by decide) ?_
  refine lv_iconst (v := 1) hx hb dX10_addControl_22 (by decide) ?_
  have hPc := hP.sub (ws' := [(h0, .inr (15, [v0, v1, v2, .ref a, v4, .int th]))]) [0] rfl
  have hDc := hD.sub (ws' := [(h0, .inr (15, [v0, v1, v2, .ref a, v4, .int th]))]) [0] (by decide) rfl
  have hKc := hK.sub (tys' := []) [] rfl
  have hFc := va_free (wc := [(h0, .inr (15, [v0, v1, v2, .ref a, v4, .int th]))]) hD hS hA [0] rfl
  refine va_calli (va_runV (As := [.int 1, .int 1]) (rest := []) ⟨hx, hb, hml, hown, hts⟩ (n_isThrown1 l dC dI H.size h0 v0 v1 v2 (.ref a) v4 th 1) (cwV 2 hts (pw_V q1253 q1255 q19 q49 q1256) rfl rfl rfl (by decide +kernel) ⟨(Nat.le_of_ble_eq_true rfl), (Nat.le_of_ble_eq_true rfl)⟩) ⟨fun a U g mk q => by obtain ⟨q0, q1, qP, qK, qD⟩ := q; exact ⟨q0, q1, qP, va_K.moved (u := U) (U := U.calling g mk a) (Vm.Alike.refl U.vm) qK, qD⟩, va_recv hKc hPc (ci := 15) (q0 := 0) rfl rfl, fun U hU hW => ⟨rfl, by rw [hU], by rw [hU]; exact hPc, va_K.moved hW.alike hKc, hDc.weaken (fun _ _ _ _ => trivial)⟩⟩ rfl rfl hl.1 rfl (lv_room (Nat.le_of_ble_eq_true rfl)) dX10_addControl_23 ⟨(Nat.le_of_ble_eq_true rfl), (Nat.le_of_ble_eq_true rfl)⟩) hS (fun q _ h => hFc q h) hFc (fun r_319 u t H1 locs ht hvm hw hB hz1 hk1 hS => ?_)
  obtain ⟨hP1, hK1, hD1⟩ := hB
  rw [ht] at hP1
  have hK1 := va_K.moved hvm.symm hK1
  obtain ⟨hP, hD⟩ := va_join (wr := [(a, .inr (4, [w0, w1, .int 0]))]) (w1 := [(h0, .inr (15, [v0, v1, v2, .ref a, v4, .int 1]))]) hP hD [0] [1] rfl rfl (by decide) (by decide) hk1 hFc hP1 hD1
  have hK := (hK.sub (tys' := []) [] rfl).app hK1
  generalize H1 = H at hP hS ⊢
  have hP : va_P (dC, dI) vwCl [(a, .inr (4, [w0, w1, .int 0])), (h0, .inr (15, [v0, v1, v2, .ref a, v4, .int 1]))] H := hP
  have hD : va_D A [(a, .inr (4, [w0, w1, .int 0])), (h0, .inr (15, [v0, v1, v2, .ref a, v4, .int 1]))] := hD
  have hK : va_K (dC, dI) vwCl [] s := hK
  refine W.widen (k := 0) (n := 0) (Nat.le_of_ble_eq_true rfl) (Nat.le_of_ble_eq_true rfl) ?_
  have hw : r_319 = 1 := hw
  subst hw
  refine lv_if_ne (tgt := 52) hx hb dX10_addControl_26 (by decide) (fun c_320 => ?_) (fun c_320 => absurd c_320 (by decide))
  refine lv_iconst (v := 0) hx hb dX10_addControl_52 (by decide) ?_
  have hP9 := hP.sub (ws' := [(h0, .inr (15, [v0, v1, v2, .ref a, v4, .int 1])), (a, .inr (4, [w0, w1, .int 0]))]) [1, 0] rfl
  have hD9 := hD.sub (ws' := [(h0, .inr (15, [v0, v1, v2, .ref a, v4, .int 1])), (a, .inr (4, [w0, w1, .int 0]))]) [1, 0] (by decide) rfl
  have hK9 := hK.sub (tys' := []) [] rfl
  refine W.widen (k := 0) (n := 0) (Nat.le_of_ble_eq_true rfl) (Nat.le_of_ble_eq_true rfl) ?_
  exact W.iret (v := 0) hx hb hr (fun t ht hW => ⟨⟨0, (), rfl, rfl, ⟨by rw [ht]; exact hP9, va_K.moved hW.alike hK9, hD9⟩⟩, hS.F ht⟩) hS.2.2 dX10_addControl_53
set_option maxHeartbeats 4000000 in
set_option maxRecDepth 100000 in
theorem y_getBand (l : Launch) (dC : Nat → ClassId) (dI : Nat → Nat → Nat) (sz : Nat) (h0 : Nat) (a : Nat) (v0 : Value) (v1 : Value) (v2 : Value) (v4 : Value) (w0 : Value) (w1 : Value) (th : Int32) (p0 : Int32) (p1 : Int32) : Met l yX10_getBand (pw_ws yX10_getBand cX10_getBand 3 (some .int)) ({ frames := 4, cells := 0, slots := 0, locals := 85 } : Room) (va_Pc [.ref h0, .int p0, .int p1] (fun U => U.heap.size = sz ∧ va_P (dC, dI) vwCl [(h0, .inr (15, [v0, v1, v2, .ref a, v4, .int th])), (a, .inr (4, [w0, w1, .int 0]))] U.heap ∧ va_K (dC, dI) vwCl [] U ∧ va_D (fun _ => True) [(h0, .inr (15, [v0, v1, v2, .ref a, v4, .int th])), (a, .inr (4, [w0, w1, .int 0]))])) (va_Qi (fun (r : Int32) (_ : Unit) => r = 0) (fun (_ : Unit) (t : State) => va_P (dC, dI) vwCl [(h0, .inr (15, [v0, v1, v2, .ref a, v4, .int 1])), (a, .inr (4, [w0, w1, .int 0]))] t.heap ∧ va_K (dC, dI) vwCl [] t ∧ va_D (va_A [(h0, .inr (15, [v0, v1, v2, .ref a, v4, .int th])), (a, .inr (4, [w0, w1, .int 0]))] sz) [(h0, .inr (15, [v0, v1, v2, .ref a, v4, .int 1])), (a, .inr (4, [w0, w1, .int 0]))]) (va_A [(h0, .inr (15, [v0, v1, v2, .ref a, v4, .int th])), (a, .inr (4, [w0, w1, .int 0]))] sz)) 0 0 (va_A [(h0, .inr (15, [v0, v1, v2, .ref a, v4, .int th])), (a, .inr (4, [w0, w1, .int 0]))] sz) := by
  refine Met.ofW (cc := cX10_getBand) (maxL := 3) (ret := (some .int)) (by decide) rfl ?_
  intro p e s m args below meth c s₁ B hml hv
  obtain ⟨rfl, hsz, hP, hK, hD0⟩ := hv
  have hx := B.exec
  have hb := B.bytes
  have hr := B.returns
  have hts0 := atoms_spec (ws := (pw_ws yX10_getBand cX10_getBand 3 (some .int))) B.pre
  have hts : ∀ w ∈ pw_all, w.before _ s = true := fun w h => hts0 w (List.mem_cons_of_mem _ h)
  have hown : s.vm.findClass RX10 = some m.cls := findClass_of_methodNamed B.named
  have hlocks := B.notSynchronized
  subst hsz
  have hD := hD0.self (sz := s.heap.size)
  generalize hAe : va_A [(h0, .inr (15, [v0, v1, v2, .ref a, v4, .int th])), (a, .inr (4, [w0, w1, .int 0]))] s.heap.size = A at hD ⊢
  have hA : ∀ q : Nat, s.heap.size ≤ q → A q := fun q h => by rw [← hAe]; exact Or.inr h
  have hS : va_S A s.heap s.heap [] := va_S.rf
  have hP : va_P (dC, dI) vwCl [(h0, .inr (15, [v0, v1, v2, .ref a, v4, .int th])), (a, .inr (4, [w0, w1, .int 0]))] s.heap := hP
  have hl := lv_entry ([.ref h0, .int p0, .int p1]) (n := 3) (Nat.le_of_ble_eq_true rfl)
  rw [lg_entry_eq]
  generalize (lg_sl ([.ref h0, .int p0, .int p1]) ++ List.replicate (3 - (lg_sl ([.ref h0, .int p0, .int p1])).length) Slot.unset).toArray = ls at hl ⊢
  have hl : lv_has ls 3 [(0, .ref h0), (1, .int p0), (2, .int p1)] := hl
  skip
  refine lv_aload_n hx hb dX10_getBand_0 rfl (lv_at hl 0 rfl) ?_
  refine lv_iload_n hx hb dX10_getBand_1 rfl (lv_at hl 1 rfl) ?_
  refine lv_iload_n hx hb dX10_getBand_2 rfl (lv_at hl 2 rfl) ?_
  have hPc := hP.sub (ws' := [(h0, .inr (15, [v0, v1, v2, .ref a, v4, .int th])), (a, .inr (4, [w0, w1, .int 0]))]) [0, 1] rfl
  have hDc := hD.sub (ws' := [(h0, .inr (15, [v0, v1, v2, .ref a, v4, .int th])), (a, .inr (4, [w0, w1, .int 0]))]) [0, 1] (by decide) rfl
  have hKc := hK.sub (tys' := []) [] rfl
  have hFc := va_free (wc := [(h0, .inr (15, [v0, v1, v2, .ref a, v4, .int th])), (a, .inr (4, [w0, w1, .int 0]))]) hD hS hA [0, 1] rfl
  refine va_calli (va_runV (As := [.int p0, .int p1]) (rest := []) ⟨hx, hb, hml, hown, hts⟩ (n_isNoBandOf l dC dI s.heap.size h0 a v0 v1 v2 v4 w0 w1 th p0 p1) (cwV 2 hts (pw_V q1583 q1585 q31 q49 q1586) rfl rfl rfl (by decide +kernel) ⟨(Nat.le_of_ble_eq_true rfl), (Nat.le_of_ble_eq_true rfl)⟩) ⟨fun a U g mk q => by obtain ⟨q0, q1, qP, qK, qD⟩ := q; exact ⟨q0, q1, qP, va_K.moved (u := U) (U := U.calling g mk a) (Vm.Alike.refl U.vm) qK, qD⟩, va_recv hKc hPc (ci := 15) (q0 := 0) rfl rfl, fun U hU hW => ⟨rfl, by rw [hU], by rw [hU]; exact hPc, va_K.moved hW.alike hKc, hDc.weaken (fun _ _ _ _ => trivial)⟩⟩ rfl rfl hl.1 rfl (lv_room (Nat.le_of_ble_eq_true rfl)) dX10_getBand_3 ⟨(Nat.le_of_ble_eq_true rfl), (Nat.le_of_ble_eq_true rfl)⟩) hS (fun q _ h => hFc q h) hFc (fun r_321 u t H1 locs ht hvm hw hB hz1 hk1 hS => ?_)
  obtain ⟨hP1, hK1, hD1⟩ := hB
  rw [ht] at hP1
  have hK1 := va_K.moved hvm.symm hK1
  obtain ⟨hP, hD⟩ := va_join (wr := []) (w1 := [(h0, .inr (15, [v0, v1, v2, .ref a, v4, .int 1])), (a, .inr (4, [w0, w1, .int 0]))]) hP hD [0, 1] [] rfl rfl (by decide) (by decide) hk1 hFc hP1 hD1
  have hK := (hK.sub (tys' := []) [] rfl).app hK1
  generalize H1 = H at hP hS ⊢
  have hP : va_P (dC, dI) vwCl [(h0, .inr (15, [v0, v1, v2, .ref a, v4, .int 1])), (a, .inr (4, [w0, w1, .int 0]))] H := hP
  have hD : va_D A [(h0, .inr (15, [v0, v1, v2, .ref a, v4, .int 1])), (a, .inr (4, [w0, w1, .int 0]))] := hD
  have hK : va_K (dC, dI) vwCl [] s := hK
  refine W.widen (k := 0) (n := 0) (Nat.le_of_ble_eq_true rfl) (Nat.le_of_ble_eq_true rfl) ?_
  have hw : r_321 = 1 := hw
  subst hw
  refine lv_if_eq (tgt := 13) hx hb dX10_getBand_6 (by decide) (fun c_322 => absurd c_322 (by decide)) (fun c_322 => ?_)
  refine lv_iconst (v := 0) hx hb dX10_getBand_9 (by decide) ?_
  refine lv_goto (tgt := 29) hx hb dX10_getBand_10 (by decide) ?_
  have hP9 := hP.sub (ws' := [(h0, .inr (15, [v0, v1, v2, .ref a, v4, .int 1])), (a, .inr (4, [w0, w1, .int 0]))]) [0, 1] rfl
  have hD9 := hD.sub (ws' := [(h0, .inr (15, [v0, v1, v2, .ref a, v4, .int 1])), (a, .inr (4, [w0, w1, .int 0]))]) [0, 1] (by decide) rfl
  have hK9 := hK.sub (tys' := []) [] rfl
  refine W.widen (k := 0) (n := 0) (Nat.le_of_ble_eq_true rfl) (Nat.le_of_ble_eq_true rfl) ?_
  exact W.iret (v := 0) hx hb hr (fun t ht hW => ⟨⟨0, (), rfl, rfl, ⟨by rw [ht]; exact hP9, va_K.moved hW.alike hK9, hD9⟩⟩, hS.F ht⟩) hS.2.2 dX10_getBand_29
set_option maxHeartbeats 4000000 in
set_option maxRecDepth 100000 in
theorem y_getDue (l : Launch) (dC : Nat → ClassId) (dI : Nat → Nat → Nat) (sz : Nat) (h0 : Nat) (a : Nat) (v0 : Value) (v1 : Value) (v2 : Value) (v4 : Value) (w0 : Value) (w1 : Value) (th : Int32) (p0 : Int32) (p1 : Int32) : Met l yX10_getDue (pw_ws yX10_getDue cX10_getDue 3 (some .int)) ({ frames := 4, cells := 0, slots := 0, locals := 85 } : Room) (va_Pc [.ref h0, .int p0, .int p1] (fun U => U.heap.size = sz ∧ va_P (dC, dI) vwCl [(h0, .inr (15, [v0, v1, v2, .ref a, v4, .int th])), (a, .inr (4, [w0, w1, .int 0]))] U.heap ∧ va_K (dC, dI) vwCl [] U ∧ va_D (fun _ => True) [(h0, .inr (15, [v0, v1, v2, .ref a, v4, .int th])), (a, .inr (4, [w0, w1, .int 0]))])) (va_Qi (fun (r : Int32) (_ : Unit) => r = 0) (fun (_ : Unit) (t : State) => va_P (dC, dI) vwCl [(h0, .inr (15, [v0, v1, v2, .ref a, v4, .int 1])), (a, .inr (4, [w0, w1, .int 0]))] t.heap ∧ va_K (dC, dI) vwCl [] t ∧ va_D (va_A [(h0, .inr (15, [v0, v1, v2, .ref a, v4, .int th])), (a, .inr (4, [w0, w1, .int 0]))] sz) [(h0, .inr (15, [v0, v1, v2, .ref a, v4, .int 1])), (a, .inr (4, [w0, w1, .int 0]))]) (va_A [(h0, .inr (15, [v0, v1, v2, .ref a, v4, .int th])), (a, .inr (4, [w0, w1, .int 0]))] sz)) 0 0 (va_A [(h0, .inr (15, [v0, v1, v2, .ref a, v4, .int th])), (a, .inr (4, [w0, w1, .int 0]))] sz) := by
  refine Met.ofW (cc := cX10_getDue) (maxL := 3) (ret := (some .int)) (by decide) rfl ?_
  intro p e s m args below meth c s₁ B hml hv
  obtain ⟨rfl, hsz, hP, hK, hD0⟩ := hv
  have hx := B.exec
  have hb := B.bytes
  have hr := B.returns
  have hts0 := atoms_spec (ws := (pw_ws yX10_getDue cX10_getDue 3 (some .int))) B.pre
  have hts : ∀ w ∈ pw_all, w.before _ s = true := fun w h => hts0 w (List.mem_cons_of_mem _ h)
  have hown : s.vm.findClass RX10 = some m.cls := findClass_of_methodNamed B.named
  have hlocks := B.notSynchronized
  subst hsz
  have hD := hD0.self (sz := s.heap.size)
  generalize hAe : va_A [(h0, .inr (15, [v0, v1, v2, .ref a, v4, .int th])), (a, .inr (4, [w0, w1, .int 0]))] s.heap.size = A at hD ⊢
  have hA : ∀ q : Nat, s.heap.size ≤ q → A q := fun q h => by rw [← hAe]; exact Or.inr h
  have hS : va_S A s.heap s.heap [] := va_S.rf
  have hP : va_P (dC, dI) vwCl [(h0, .inr (15, [v0, v1, v2, .ref a, v4, .int th])), (a, .inr (4, [w0, w1, .int 0]))] s.heap := hP
  have hl := lv_entry ([.ref h0, .int p0, .int p1]) (n := 3) (Nat.le_of_ble_eq_true rfl)
  rw [lg_entry_eq]
  generalize (lg_sl ([.ref h0, .int p0, .int p1]) ++ List.replicate (3 - (lg_sl ([.ref h0, .int p0, .int p1])).length) Slot.unset).toArray = ls at hl ⊢
  have hl : lv_has ls 3 [(0, .ref h0), (1, .int p0), (2, .int p1)] := hl
  skip
  refine lv_aload_n hx hb dX10_getDue_0 rfl (lv_at hl 0 rfl) ?_
  refine lv_iload_n hx hb dX10_getDue_1 rfl (lv_at hl 1 rfl) ?_
  refine lv_iload_n hx hb dX10_getDue_2 rfl (lv_at hl 2 rfl) ?_
  have hPc := hP.sub (ws' := [(h0, .inr (15, [v0, v1, v2, .ref a, v4, .int th])), (a, .inr (4, [w0, w1, .int 0]))]) [0, 1] rfl
  have hDc := hD.sub (ws' := [(h0, .inr (15, [v0, v1, v2, .ref a, v4, .int th])), (a, .inr (4, [w0, w1, .int 0]))]) [0, 1] (by decide) rfl
  have hKc := hK.sub (tys' := []) [] rfl
  have hFc := va_free (wc := [(h0, .inr (15, [v0, v1, v2, .ref a, v4, .int th])), (a, .inr (4, [w0, w1, .int 0]))]) hD hS hA [0, 1] rfl
  refine va_calli (va_runV (As := [.int p0, .int p1]) (rest := []) ⟨hx, hb, hml, hown, hts⟩ (n_isNoBandOf l dC dI s.heap.size h0 a v0 v1 v2 v4 w0 w1 th p0 p1) (cwV 2 hts (pw_V q1583 q1585 q31 q49 q1586) rfl rfl rfl (by decide +kernel) ⟨(Nat.le_of_ble_eq_true rfl), (Nat.le_of_ble_eq_true rfl)⟩) ⟨fun a U g mk q => by obtain ⟨q0, q1, qP, qK, qD⟩ := q; exact ⟨q0, q1, qP, va_K.moved (u := U) (U := U.calling g mk a) (Vm.Alike.refl U.vm) qK, qD⟩, va_recv hKc hPc (ci := 15) (q0 := 0) rfl rfl, fun U hU hW => ⟨rfl, by rw [hU], by rw [hU]; exact hPc, va_K.moved hW.alike hKc, hDc.weaken (fun _ _ _ _ => trivial)⟩⟩ rfl rfl hl.1 rfl (lv_room (Nat.le_of_ble_eq_true rfl)) dX10_getDue_3 ⟨(Nat.le_of_ble_eq_true rfl), (Nat.le_of_ble_eq_true rfl)⟩) hS (fun q _ h => hFc q h) hFc (fun r_323 u t H1 locs ht hvm hw hB hz1 hk1 hS => ?_)
  obtain ⟨hP1, hK1, hD1⟩ := hB
  rw [ht] at hP1
  have hK1 := va_K.moved hvm.symm hK1
  obtain ⟨hP, hD⟩ := va_join (wr := []) (w1 := [(h0, .inr (15, [v0, v1, v2, .ref a, v4, .int 1])), (a, .inr (4, [w0, w1, .int 0]))]) hP hD [0, 1] [] rfl rfl (by decide) (by decide) hk1 hFc hP1 hD1
  have hK := (hK.sub (tys' := []) [] rfl).app hK1
  generalize H1 = H at hP hS ⊢
  have hP : va_P (dC, dI) vwCl [(h0, .inr (15, [v0, v1, v2, .ref a, v4, .int 1])), (a, .inr (4, [w0, w1, .int 0]))] H := hP
  have hD : va_D A [(h0, .inr (15, [v0, v1, v2, .ref a, v4, .int 1])), (a, .inr (4, [w0, w1, .int 0]))] := hD
  have hK : va_K (dC, dI) vwCl [] s := hK
  refine W.widen (k := 0) (n := 0) (Nat.le_of_ble_eq_true rfl) (Nat.le_of_ble_eq_true rfl) ?_
  have hw : r_323 = 1 := hw
  subst hw
  refine lv_if_eq (tgt := 13) hx hb dX10_getDue_6 (by decide) (fun c_324 => absurd c_324 (by decide)) (fun c_324 => ?_)
  refine lv_iconst (v := 0) hx hb dX10_getDue_9 (by decide) ?_
  refine lv_goto (tgt := 29) hx hb dX10_getDue_10 (by decide) ?_
  have hP9 := hP.sub (ws' := [(h0, .inr (15, [v0, v1, v2, .ref a, v4, .int 1])), (a, .inr (4, [w0, w1, .int 0]))]) [0, 1] rfl
  have hD9 := hD.sub (ws' := [(h0, .inr (15, [v0, v1, v2, .ref a, v4, .int 1])), (a, .inr (4, [w0, w1, .int 0]))]) [0, 1] (by decide) rfl
  have hK9 := hK.sub (tys' := []) [] rfl
  refine W.widen (k := 0) (n := 0) (Nat.le_of_ble_eq_true rfl) (Nat.le_of_ble_eq_true rfl) ?_
  exact W.iret (v := 0) hx hb hr (fun t ht hW => ⟨⟨0, (), rfl, rfl, ⟨by rw [ht]; exact hP9, va_K.moved hW.alike hK9, hD9⟩⟩, hS.F ht⟩) hS.2.2 dX10_getDue_29
set_option maxHeartbeats 4000000 in
set_option maxRecDepth 100000 in
theorem y_isInBand (l : Launch) (dC : Nat → ClassId) (dI : Nat → Nat → Nat) (sz : Nat) (h0 : Nat) (a : Nat) (v0 : Value) (v1 : Value) (v2 : Value) (v4 : Value) (w0 : Value) (w1 : Value) (th : Int32) (p0 : Int32) (p1 : Int32) : Met l yX10_isInBand_ (pw_ws yX10_isInBand_ cX10_isInBand_ 3 (some .boolean)) ({ frames := 4, cells := 0, slots := 0, locals := 85 } : Room) (va_Pc [.ref h0, .int p0, .int p1] (fun U => U.heap.size = sz ∧ va_P (dC, dI) vwCl [(h0, .inr (15, [v0, v1, v2, .ref a, v4, .int th])), (a, .inr (4, [w0, w1, .int 0]))] U.heap ∧ va_K (dC, dI) vwCl [] U ∧ va_D (fun _ => True) [(h0, .inr (15, [v0, v1, v2, .ref a, v4, .int th])), (a, .inr (4, [w0, w1, .int 0]))])) (va_Qi (fun (r : Int32) (_ : Unit) => r = 0) (fun (_ : Unit) (t : State) => va_P (dC, dI) vwCl [(h0, .inr (15, [v0, v1, v2, .ref a, v4, .int 1])), (a, .inr (4, [w0, w1, .int 0]))] t.heap ∧ va_K (dC, dI) vwCl [] t ∧ va_D (va_A [(h0, .inr (15, [v0, v1, v2, .ref a, v4, .int th])), (a, .inr (4, [w0, w1, .int 0]))] sz) [(h0, .inr (15, [v0, v1, v2, .ref a, v4, .int 1])), (a, .inr (4, [w0, w1, .int 0]))]) (va_A [(h0, .inr (15, [v0, v1, v2, .ref a, v4, .int th])), (a, .inr (4, [w0, w1, .int 0]))] sz)) 0 0 (va_A [(h0, .inr (15, [v0, v1, v2, .ref a, v4, .int th])), (a, .inr (4, [w0, w1, .int 0]))] sz) := by
  refine Met.ofW (cc := cX10_isInBand_) (maxL := 3) (ret := (some .boolean)) (by decide) rfl ?_
  intro p e s m args below meth c s₁ B hml hv
  obtain ⟨rfl, hsz, hP, hK, hD0⟩ := hv
  have hx := B.exec
  have hb := B.bytes
  have hr := B.returns
  have hts0 := atoms_spec (ws := (pw_ws yX10_isInBand_ cX10_isInBand_ 3 (some .boolean))) B.pre
  have hts : ∀ w ∈ pw_all, w.before _ s = true := fun w h => hts0 w (List.mem_cons_of_mem _ h)
  have hown : s.vm.findClass RX10 = some m.cls := findClass_of_methodNamed B.named
  have hlocks := B.notSynchronized
  subst hsz
  have hD := hD0.self (sz := s.heap.size)
  generalize hAe : va_A [(h0, .inr (15, [v0, v1, v2, .ref a, v4, .int th])), (a, .inr (4, [w0, w1, .int 0]))] s.heap.size = A at hD ⊢
  have hA : ∀ q : Nat, s.heap.size ≤ q → A q := fun q h => by rw [← hAe]; exact Or.inr h
  have hS : va_S A s.heap s.heap [] := va_S.rf
  have hP : va_P (dC, dI) vwCl [(h0, .inr (15, [v0, v1, v2, .ref a, v4, .int th])), (a, .inr (4, [w0, w1, .int 0]))] s.heap := hP
  have hl := lv_entry ([.ref h0, .int p0, .int p1]) (n := 3) (Nat.le_of_ble_eq_true rfl)
  rw [lg_entry_eq]
  generalize (lg_sl ([.ref h0, .int p0, .int p1]) ++ List.replicate (3 - (lg_sl ([.ref h0, .int p0, .int p1])).length) Slot.unset).toArray = ls at hl ⊢
  have hl : lv_has ls 3 [(0, .ref h0), (1, .int p0), (2, .int p1)] := hl
  skip
  refine lv_aload_n hx hb dX10_isInBand__0 rfl (lv_at hl 0 rfl) ?_
  refine lv_iload_n hx hb dX10_isInBand__1 rfl (lv_at hl 1 rfl) ?_
  refine lv_iload_n hx hb dX10_isInBand__2 rfl (lv_at hl 2 rfl) ?_
  have hPc := hP.sub (ws' := [(h0, .inr (15, [v0, v1, v2, .ref a, v4, .int th])), (a, .inr (4, [w0, w1, .int 0]))]) [0, 1] rfl
  have hDc := hD.sub (ws' := [(h0, .inr (15, [v0, v1, v2, .ref a, v4, .int th])), (a, .inr (4, [w0, w1, .int 0]))]) [0, 1] (by decide) rfl
  have hKc := hK.sub (tys' := []) [] rfl
  have hFc := va_free (wc := [(h0, .inr (15, [v0, v1, v2, .ref a, v4, .int th])), (a, .inr (4, [w0, w1, .int 0]))]) hD hS hA [0, 1] rfl
  refine va_calli (va_runV (As := [.int p0, .int p1]) (rest := []) ⟨hx, hb, hml, hown, hts⟩ (n_isNoBandOf l dC dI s.heap.size h0 a v0 v1 v2 v4 w0 w1 th p0 p1) (cwV 2 hts (pw_V q1583 q1585 q31 q49 q1586) rfl rfl rfl (by decide +kernel) ⟨(Nat.le_of_ble_eq_true rfl), (Nat.le_of_ble_eq_true rfl)⟩) ⟨fun a U g mk q => by obtain ⟨q0, q1, qP, qK, qD⟩ := q; exact ⟨q0, q1, qP, va_K.moved (u := U) (U := U.calling g mk a) (Vm.Alike.refl U.vm) qK, qD⟩, va_recv hKc hPc (ci := 15) (q0 := 0) rfl rfl, fun U hU hW => ⟨rfl, by rw [hU], by rw [hU]; exact hPc, va_K.moved hW.alike hKc, hDc.weaken (fun _ _ _ _ => trivial)⟩⟩ rfl rfl hl.1 rfl (lv_room (Nat.le_of_ble_eq_true rfl)) dX10_isInBand__3 ⟨(Nat.le_of_ble_eq_true rfl), (Nat.le_of_ble_eq_true rfl)⟩) hS (fun q _ h => hFc q h) hFc (fun r_325 u t H1 locs ht hvm hw hB hz1 hk1 hS => ?_)
  obtain ⟨hP1, hK1, hD1⟩ := hB
  rw [ht] at hP1
  have hK1 := va_K.moved hvm.symm hK1
  obtain ⟨hP, hD⟩ := va_join (wr := []) (w1 := [(h0, .inr (15, [v0, v1, v2, .ref a, v4, .int 1])), (a, .inr (4, [w0, w1, .int 0]))]) hP hD [0, 1] [] rfl rfl (by decide) (by decide) hk1 hFc hP1 hD1
  have hK := (hK.sub (tys' := []) [] rfl).app hK1
  generalize H1 = H at hP hS ⊢
  have hP : va_P (dC, dI) vwCl [(h0, .inr (15, [v0, v1, v2, .ref a, v4, .int 1])), (a, .inr (4, [w0, w1, .int 0]))] H := hP
  have hD : va_D A [(h0, .inr (15, [v0, v1, v2, .ref a, v4, .int 1])), (a, .inr (4, [w0, w1, .int 0]))] := hD
  have hK : va_K (dC, dI) vwCl [] s := hK
  refine W.widen (k := 0) (n := 0) (Nat.le_of_ble_eq_true rfl) (Nat.le_of_ble_eq_true rfl) ?_
  have hw : r_325 = 1 := hw
  subst hw
  refine lv_if_ne (tgt := 32) hx hb dX10_isInBand__6 (by decide) (fun c_326 => ?_) (fun c_326 => absurd c_326 (by decide))
  refine lv_iconst (v := 0) hx hb dX10_isInBand__32 (by decide) ?_
  have hP9 := hP.sub (ws' := [(h0, .inr (15, [v0, v1, v2, .ref a, v4, .int 1])), (a, .inr (4, [w0, w1, .int 0]))]) [0, 1] rfl
  have hD9 := hD.sub (ws' := [(h0, .inr (15, [v0, v1, v2, .ref a, v4, .int 1])), (a, .inr (4, [w0, w1, .int 0]))]) [0, 1] (by decide) rfl
  have hK9 := hK.sub (tys' := []) [] rfl
  refine W.widen (k := 0) (n := 0) (Nat.le_of_ble_eq_true rfl) (Nat.le_of_ble_eq_true rfl) ?_
  exact W.zret (v := 0) hx hb hr (by decide) (fun t ht hW => ⟨⟨0, (), rfl, rfl, ⟨by rw [ht]; exact hP9, va_K.moved hW.alike hK9, hD9⟩⟩, hS.F ht⟩) hS.2.2 dX10_isInBand__33
set_option maxHeartbeats 4000000 in
set_option maxRecDepth 100000 in
theorem y_getDrive (l : Launch) (dC : Nat → ClassId) (dI : Nat → Nat → Nat) (sz : Nat) (h0 : Nat) (a : Nat) (v0 : Value) (v1 : Value) (v2 : Value) (v4 : Value) (w0 : Value) (w1 : Value) (th : Int32) (p0 : Int32) (p1 : Int32) : Met l yX10_getDrive (pw_ws yX10_getDrive cX10_getDrive 3 (some .int)) ({ frames := 4, cells := 0, slots := 0, locals := 85 } : Room) (va_Pc [.ref h0, .int p0, .int p1] (fun U => U.heap.size = sz ∧ va_P (dC, dI) vwCl [(h0, .inr (15, [v0, v1, v2, .ref a, v4, .int th])), (a, .inr (4, [w0, w1, .int 0]))] U.heap ∧ va_K (dC, dI) vwCl [] U ∧ va_D (fun _ => True) [(h0, .inr (15, [v0, v1, v2, .ref a, v4, .int th])), (a, .inr (4, [w0, w1, .int 0]))])) (va_Qi (fun (r : Int32) (_ : Unit) => r = 0) (fun (_ : Unit) (t : State) => va_P (dC, dI) vwCl [(h0, .inr (15, [v0, v1, v2, .ref a, v4, .int 1])), (a, .inr (4, [w0, w1, .int 0]))] t.heap ∧ va_K (dC, dI) vwCl [] t ∧ va_D (va_A [(h0, .inr (15, [v0, v1, v2, .ref a, v4, .int th])), (a, .inr (4, [w0, w1, .int 0]))] sz) [(h0, .inr (15, [v0, v1, v2, .ref a, v4, .int 1])), (a, .inr (4, [w0, w1, .int 0]))]) (va_A [(h0, .inr (15, [v0, v1, v2, .ref a, v4, .int th])), (a, .inr (4, [w0, w1, .int 0]))] sz)) 0 0 (va_A [(h0, .inr (15, [v0, v1, v2, .ref a, v4, .int th])), (a, .inr (4, [w0, w1, .int 0]))] sz) := by
  refine Met.ofW (cc := cX10_getDrive) (maxL := 3) (ret := (some .int)) (by decide) rfl ?_
  intro p e s m args below meth c s₁ B hml hv
  obtain ⟨rfl, hsz, hP, hK, hD0⟩ := hv
  have hx := B.exec
  have hb := B.bytes
  have hr := B.returns
  have hts0 := atoms_spec (ws := (pw_ws yX10_getDrive cX10_getDrive 3 (some .int))) B.pre
  have hts : ∀ w ∈ pw_all, w.before _ s = true := fun w h => hts0 w (List.mem_cons_of_mem _ h)
  have hown : s.vm.findClass RX10 = some m.cls := findClass_of_methodNamed B.named
  have hlocks := B.notSynchronized
  subst hsz
  have hD := hD0.self (sz := s.heap.size)
  generalize hAe : va_A [(h0, .inr (15, [v0, v1, v2, .ref a, v4, .int th])), (a, .inr (4, [w0, w1, .int 0]))] s.heap.size = A at hD ⊢
  have hA : ∀ q : Nat, s.heap.size ≤ q → A q := fun q h => by rw [← hAe]; exact Or.inr h
  have hS : va_S A s.heap s.heap [] := va_S.rf
  have hP : va_P (dC, dI) vwCl [(h0, .inr (15, [v0, v1, v2, .ref a, v4, .int th])), (a, .inr (4, [w0, w1, .int 0]))] s.heap := hP
  have hl := lv_entry ([.ref h0, .int p0, .int p1]) (n := 3) (Nat.le_of_ble_eq_true rfl)
  rw [lg_entry_eq]
  generalize (lg_sl ([.ref h0, .int p0, .int p1]) ++ List.replicate (3 - (lg_sl ([.ref h0, .int p0, .int p1])).length) Slot.unset).toArray = ls at hl ⊢
  have hl : lv_has ls 3 [(0, .ref h0), (1, .int p0), (2, .int p1)] := hl
  skip
  refine lv_aload_n hx hb dX10_getDrive_0 rfl (lv_at hl 0 rfl) ?_
  refine lv_iload_n hx hb dX10_getDrive_1 rfl (lv_at hl 1 rfl) ?_
  refine lv_iload_n hx hb dX10_getDrive_2 rfl (lv_at hl 2 rfl) ?_
  have hPc := hP.sub (ws' := [(h0, .inr (15, [v0, v1, v2, .ref a, v4, .int th])), (a, .inr (4, [w0, w1, .int 0]))]) [0, 1] rfl
  have hDc := hD.sub (ws' := [(h0, .inr (15, [v0, v1, v2, .ref a, v4, .int th])), (a, .inr (4, [w0, w1, .int 0]))]) [0, 1] (by decide) rfl
  have hKc := hK.sub (tys' := []) [] rfl
  have hFc := va_free (wc := [(h0, .inr (15, [v0, v1, v2, .ref a, v4, .int th])), (a, .inr (4, [w0, w1, .int 0]))]) hD hS hA [0, 1] rfl
  refine va_calli (va_runV (As := [.int p0, .int p1]) (rest := []) ⟨hx, hb, hml, hown, hts⟩ (n_isNoBandOf l dC dI s.heap.size h0 a v0 v1 v2 v4 w0 w1 th p0 p1) (cwV 2 hts (pw_V q1583 q1585 q31 q49 q1586) rfl rfl rfl (by decide +kernel) ⟨(Nat.le_of_ble_eq_true rfl), (Nat.le_of_ble_eq_true rfl)⟩) ⟨fun a U g mk q => by obtain ⟨q0, q1, qP, qK, qD⟩ := q; exact ⟨q0, q1, qP, va_K.moved (u := U) (U := U.calling g mk a) (Vm.Alike.refl U.vm) qK, qD⟩, va_recv hKc hPc (ci := 15) (q0 := 0) rfl rfl, fun U hU hW => ⟨rfl, by rw [hU], by rw [hU]; exact hPc, va_K.moved hW.alike hKc, hDc.weaken (fun _ _ _ _ => trivial)⟩⟩ rfl rfl hl.1 rfl (lv_room (Nat.le_of_ble_eq_true rfl)) dX10_getDrive_3 ⟨(Nat.le_of_ble_eq_true rfl), (Nat.le_of_ble_eq_true rfl)⟩) hS (fun q _ h => hFc q h) hFc (fun r_327 u t H1 locs ht hvm hw hB hz1 hk1 hS => ?_)
  obtain ⟨hP1, hK1, hD1⟩ := hB
  rw [ht] at hP1
  have hK1 := va_K.moved hvm.symm hK1
  obtain ⟨hP, hD⟩ := va_join (wr := []) (w1 := [(h0, .inr (15, [v0, v1, v2, .ref a, v4, .int 1])), (a, .inr (4, [w0, w1, .int 0]))]) hP hD [0, 1] [] rfl rfl (by decide) (by decide) hk1 hFc hP1 hD1
  have hK := (hK.sub (tys' := []) [] rfl).app hK1
  generalize H1 = H at hP hS ⊢
  have hP : va_P (dC, dI) vwCl [(h0, .inr (15, [v0, v1, v2, .ref a, v4, .int 1])), (a, .inr (4, [w0, w1, .int 0]))] H := hP
  have hD : va_D A [(h0, .inr (15, [v0, v1, v2, .ref a, v4, .int 1])), (a, .inr (4, [w0, w1, .int 0]))] := hD
  have hK : va_K (dC, dI) vwCl [] s := hK
  refine W.widen (k := 0) (n := 0) (Nat.le_of_ble_eq_true rfl) (Nat.le_of_ble_eq_true rfl) ?_
  have hw : r_327 = 1 := hw
  subst hw
  refine lv_if_eq (tgt := 13) hx hb dX10_getDrive_6 (by decide) (fun c_328 => absurd c_328 (by decide)) (fun c_328 => ?_)
  refine lv_iconst (v := 0) hx hb dX10_getDrive_9 (by decide) ?_
  refine lv_goto (tgt := 29) hx hb dX10_getDrive_10 (by decide) ?_
  have hP9 := hP.sub (ws' := [(h0, .inr (15, [v0, v1, v2, .ref a, v4, .int 1])), (a, .inr (4, [w0, w1, .int 0]))]) [0, 1] rfl
  have hD9 := hD.sub (ws' := [(h0, .inr (15, [v0, v1, v2, .ref a, v4, .int 1])), (a, .inr (4, [w0, w1, .int 0]))]) [0, 1] (by decide) rfl
  have hK9 := hK.sub (tys' := []) [] rfl
  refine W.widen (k := 0) (n := 0) (Nat.le_of_ble_eq_true rfl) (Nat.le_of_ble_eq_true rfl) ?_
  exact W.iret (v := 0) hx hb hr (fun t ht hW => ⟨⟨0, (), rfl, rfl, ⟨by rw [ht]; exact hP9, va_K.moved hW.alike hK9, hD9⟩⟩, hS.F ht⟩) hS.2.2 dX10_getDrive_29
set_option maxHeartbeats 4000000 in
set_option maxRecDepth 100000 in
theorem y_turnLoop (l : Launch) (dC : Nat → ClassId) (dI : Nat → Nat → Nat) (sz : Nat) (h0 : Nat) (a : Nat) (v0 : Value) (v1 : Value) (v2 : Value) (v4 : Value) (w0 : Value) (w1 : Value) (th : Int32) (p0 : Int32) : Met l yX10_turnLoop (pw_ws yX10_turnLoop cX10_turnLoop 8 (some .int)) ({ frames := 3, cells := 0, slots := 0, locals := 63 } : Room) (va_Pc [.ref h0, .int p0] (fun U => U.heap.size = sz ∧ va_P (dC, dI) vwCl [(h0, .inr (15, [v0, v1, v2, .ref a, v4, .int th])), (a, .inr (4, [w0, w1, .int 0]))] U.heap ∧ va_K (dC, dI) vwCl [] U ∧ va_D (fun _ => True) [(h0, .inr (15, [v0, v1, v2, .ref a, v4, .int th])), (a, .inr (4, [w0, w1, .int 0]))])) (va_Qi (fun (r : Int32) (_ : Unit) => r = 0) (fun (_ : Unit) (t : State) => va_P (dC, dI) vwCl [(h0, .inr (15, [v0, v1, v2, .ref a, v4, .int 1])), (a, .inr (4, [w0, w1, .int 0]))] t.heap ∧ va_K (dC, dI) vwCl [] t ∧ va_D (va_A [(h0, .inr (15, [v0, v1, v2, .ref a, v4, .int th])), (a, .inr (4, [w0, w1, .int 0]))] sz) [(h0, .inr (15, [v0, v1, v2, .ref a, v4, .int 1])), (a, .inr (4, [w0, w1, .int 0]))]) (va_A [(h0, .inr (15, [v0, v1, v2, .ref a, v4, .int th])), (a, .inr (4, [w0, w1, .int 0]))] sz)) 0 0 (va_A [(h0, .inr (15, [v0, v1, v2, .ref a, v4, .int th])), (a, .inr (4, [w0, w1, .int 0]))] sz) := by
  refine Met.ofW (cc := cX10_turnLoop) (maxL := 8) (ret := (some .int)) (by decide) rfl ?_
  intro p e s m args below meth c s₁ B hml hv
  obtain ⟨rfl, hsz, hP, hK, hD0⟩ := hv
  have hx := B.exec
  have hb := B.bytes
  have hr := B.returns
  have hts0 := atoms_spec (ws := (pw_ws yX10_turnLoop cX10_turnLoop 8 (some .int))) B.pre
  have hts : ∀ w ∈ pw_all, w.before _ s = true := fun w h => hts0 w (List.mem_cons_of_mem _ h)
  have hown : s.vm.findClass RX10 = some m.cls := findClass_of_methodNamed B.named
  have hlocks := B.notSynchronized
  subst hsz
  have hD := hD0.self (sz := s.heap.size)
  generalize hAe : va_A [(h0, .inr (15, [v0, v1, v2, .ref a, v4, .int th])), (a, .inr (4, [w0, w1, .int 0]))] s.heap.size = A at hD ⊢
  have hA : ∀ q : Nat, s.heap.size ≤ q → A q := fun q h => by rw [← hAe]; exact Or.inr h
  have hS : va_S A s.heap s.heap [] := va_S.rf
  have hP : va_P (dC, dI) vwCl [(h0, .inr (15, [v0, v1, v2, .ref a, v4, .int th])), (a, .inr (4, [w0, w1, .int 0]))] s.heap := hP
  have hl := lv_entry ([.ref h0, .int p0]) (n := 8) (Nat.le_of_ble_eq_true rfl)
  rw [lg_entry_eq]
  generalize (lg_sl ([.ref h0, .int p0]) ++ List.replicate (8 - (lg_sl ([.ref h0, .int p0])).length) Slot.unset).toArray = ls at hl ⊢
  have hl : lv_has ls 8 [(0, .ref h0), (1, .int p0)] := hl
  skip
  refine lv_aload_n hx hb dX10_turnLoop_0 rfl (lv_at hl 0 rfl) ?_
  refine lv_aload_n hx hb dX10_turnLoop_1 rfl (lv_at hl 0 rfl) ?_
  refine lv_iload_n hx hb dX10_turnLoop_2 rfl (lv_at hl 1 rfl) ?_
  have hPc := hP.sub (ws' := [(h0, .inr (15, [v0, v1, v2, .ref a, v4, .int th])), (a, .inr (4, [w0, w1, .int 0]))]) [0, 1] rfl
  have hDc := hD.sub (ws' := [(h0, .inr (15, [v0, v1, v2, .ref a, v4, .int th])), (a, .inr (4, [w0, w1, .int 0]))]) [0, 1] (by decide) rfl
  have hKc := hK.sub (tys' := []) [] rfl
  have hFc := va_free (wc := [(h0, .inr (15, [v0, v1, v2, .ref a, v4, .int th])), (a, .inr (4, [w0, w1, .int 0]))]) hD hS hA [0, 1] rfl
  refine va_calli (va_runV (As := [.int p0]) (rest := [.ref h0]) ⟨hx, hb, hml, hown, hts⟩ (n_isNoRun l dC dI s.heap.size h0 a v0 v1 v2 v4 (.int th) w0 w1 p0) (cwV 1 hts (pw_V q1518 q1520 q30 q49 q1521) rfl rfl rfl (by decide +kernel) ⟨(Nat.le_of_ble_eq_true rfl), (Nat.le_of_ble_eq_true rfl)⟩) ⟨fun a U g mk q => by obtain ⟨q0, q1, qP, qK, qD⟩ := q; exact ⟨q0, q1, qP, va_K.moved (u := U) (U := U.calling g mk a) (Vm.Alike.refl U.vm) qK, qD⟩, va_recv hKc hPc (ci := 15) (q0 := 0) rfl rfl, fun U hU hW => ⟨rfl, by rw [hU], by rw [hU]; exact hPc, va_K.moved hW.alike hKc, hDc.weaken (fun _ _ _ _ => trivial)⟩⟩ rfl rfl hl.1 rfl (lv_room (Nat.le_of_ble_eq_true rfl)) dX10_turnLoop_3 ⟨(Nat.le_of_ble_eq_true rfl), (Nat.le_of_ble_eq_true rfl)⟩) hS (fun q _ h => hFc q h) hFc (fun r_329 u t H1 locs ht hvm hw hB hz1 hk1 hS => ?_)
  obtain ⟨hP1, hK1, hD1⟩ := hB
  rw [ht] at hP1
  have hK1 := va_K.moved hvm.symm hK1
  obtain ⟨hP, hD⟩ := va_join (wr := []) (w1 := [(h0, .inr (15, [v0, v1, v2, .ref a, v4, .int th])), (a, .inr (4, [w0, w1, .int 0]))]) hP hD [0, 1] [] rfl rfl (by decide) (by decide) hk1 hFc hP1 hD1
  have hK := (hK.sub (tys' := []) [] rfl).app hK1
  generalize H1 = H at hP hS ⊢
  have hP : va_P (dC, dI) vwCl [(h0, .inr (15, [v0, v1, v2, .ref a, v4, .int th])), (a, .inr (4, [w0, w1, .int 0]))] H := hP
  have hD : va_D A [(h0, .inr (15, [v0, v1, v2, .ref a, v4, .int th])), (a, .inr (4, [w0, w1, .int 0]))] := hD
  have hK : va_K (dC, dI) vwCl [] s := hK
  refine W.widen (k := 0) (n := 0) (Nat.le_of_ble_eq_true rfl) (Nat.le_of_ble_eq_true rfl) ?_
  have hw : r_329 = 1 := hw
  subst hw
  refine lv_iconst (v := 1) hx hb dX10_turnLoop_6 (by decide) ?_
  have hPc := hP.sub (ws' := [(h0, .inr (15, [v0, v1, v2, .ref a, v4, .int th]))]) [0] rfl
  have hDc := hD.sub (ws' := [(h0, .inr (15, [v0, v1, v2, .ref a, v4, .int th]))]) [0] (by decide) rfl
  have hKc := hK.sub (tys' := []) [] rfl
  have hFc := va_free (wc := [(h0, .inr (15, [v0, v1, v2, .ref a, v4, .int th]))]) hD hS hA [0] rfl
  refine va_calli (va_runV (As := [.int 1, .int 1]) (rest := []) ⟨hx, hb, hml, hown, hts⟩ (n_isThrown1 l dC dI H.size h0 v0 v1 v2 (.ref a) v4 th 1) (cwV 2 hts (pw_V q1253 q1255 q19 q49 q1256) rfl rfl rfl (by decide +kernel) ⟨(Nat.le_of_ble_eq_true rfl), (Nat.le_of_ble_eq_true rfl)⟩) ⟨fun a U g mk q => by obtain ⟨q0, q1, qP, qK, qD⟩ := q; exact ⟨q0, q1, qP, va_K.moved (u := U) (U := U.calling g mk a) (Vm.Alike.refl U.vm) qK, qD⟩, va_recv hKc hPc (ci := 15) (q0 := 0) rfl rfl, fun U hU hW => ⟨rfl, by rw [hU], by rw [hU]; exact hPc, va_K.moved hW.alike hKc, hDc.weaken (fun _ _ _ _ => trivial)⟩⟩ rfl rfl hl.1 rfl (lv_room (Nat.le_of_ble_eq_true rfl)) dX10_turnLoop_7 ⟨(Nat.le_of_ble_eq_true rfl), (Nat.le_of_ble_eq_true rfl)⟩) hS (fun q _ h => hFc q h) hFc (fun r_330 u t H1 locs ht hvm hw hB hz1 hk1 hS => ?_)
  obtain ⟨hP1, hK1, hD1⟩ := hB
  rw [ht] at hP1
  have hK1 := va_K.moved hvm.symm hK1
  obtain ⟨hP, hD⟩ := va_join (wr := [(a, .inr (4, [w0, w1, .int 0]))]) (w1 := [(h0, .inr (15, [v0, v1, v2, .ref a, v4, .int 1]))]) hP hD [0] [1] rfl rfl (by decide) (by decide) hk1 hFc hP1 hD1
  have hK := (hK.sub (tys' := []) [] rfl).app hK1
  generalize H1 = H at hP hS ⊢
  have hP : va_P (dC, dI) vwCl [(a, .inr (4, [w0, w1, .int 0])), (h0, .inr (15, [v0, v1, v2, .ref a, v4, .int 1]))] H := hP
  have hD : va_D A [(a, .inr (4, [w0, w1, .int 0])), (h0, .inr (15, [v0, v1, v2, .ref a, v4, .int 1]))] := hD
  have hK : va_K (dC, dI) vwCl [] s := hK
  refine W.widen (k := 0) (n := 0) (Nat.le_of_ble_eq_true rfl) (Nat.le_of_ble_eq_true rfl) ?_
  have hw : r_330 = 1 := hw
  subst hw
  refine lv_if_eq (tgt := 15) hx hb dX10_turnLoop_10 (by decide) (fun c_331 => absurd c_331 (by decide)) (fun c_331 => ?_)
  refine lv_iconst (v := 0) hx hb dX10_turnLoop_13 (by decide) ?_
  have hP9 := hP.sub (ws' := [(h0, .inr (15, [v0, v1, v2, .ref a, v4, .int 1])), (a, .inr (4, [w0, w1, .int 0]))]) [1, 0] rfl
  have hD9 := hD.sub (ws' := [(h0, .inr (15, [v0, v1, v2, .ref a, v4, .int 1])), (a, .inr (4, [w0, w1, .int 0]))]) [1, 0] (by decide) rfl
  have hK9 := hK.sub (tys' := []) [] rfl
  refine W.widen (k := 0) (n := 0) (Nat.le_of_ble_eq_true rfl) (Nat.le_of_ble_eq_true rfl) ?_
  exact W.iret (v := 0) hx hb hr (fun t ht hW => ⟨⟨0, (), rfl, rfl, ⟨by rw [ht]; exact hP9, va_K.moved hW.alike hK9, hD9⟩⟩, hS.F ht⟩) hS.2.2 dX10_turnLoop_14
set_option maxHeartbeats 4000000 in
set_option maxRecDepth 100000 in
theorem y_getState (l : Launch) (dC : Nat → ClassId) (dI : Nat → Nat → Nat) (sz : Nat) (h0 : Nat) (a : Nat) (v0 : Value) (v1 : Value) (v2 : Value) (v4 : Value) (w0 : Value) (w1 : Value) (th : Int32) (p0 : Int32) : Met l yX10_getState (pw_ws yX10_getState cX10_getState 2 (some .char)) ({ frames := 3, cells := 0, slots := 0, locals := 63 } : Room) (va_Pc [.ref h0, .int p0] (fun U => U.heap.size = sz ∧ va_P (dC, dI) vwCl [(h0, .inr (15, [v0, v1, v2, .ref a, v4, .int th])), (a, .inr (4, [w0, w1, .int 0]))] U.heap ∧ va_K (dC, dI) vwCl [] U ∧ va_D (fun _ => True) [(h0, .inr (15, [v0, v1, v2, .ref a, v4, .int th])), (a, .inr (4, [w0, w1, .int 0]))])) (va_Qi (fun (r : Int32) (_ : Unit) => r = 32) (fun (_ : Unit) (t : State) => va_P (dC, dI) vwCl [(h0, .inr (15, [v0, v1, v2, .ref a, v4, .int 1])), (a, .inr (4, [w0, w1, .int 0]))] t.heap ∧ va_K (dC, dI) vwCl [] t ∧ va_D (va_A [(h0, .inr (15, [v0, v1, v2, .ref a, v4, .int th])), (a, .inr (4, [w0, w1, .int 0]))] sz) [(h0, .inr (15, [v0, v1, v2, .ref a, v4, .int 1])), (a, .inr (4, [w0, w1, .int 0]))]) (va_A [(h0, .inr (15, [v0, v1, v2, .ref a, v4, .int th])), (a, .inr (4, [w0, w1, .int 0]))] sz)) 0 0 (va_A [(h0, .inr (15, [v0, v1, v2, .ref a, v4, .int th])), (a, .inr (4, [w0, w1, .int 0]))] sz) := by
  refine Met.ofW (cc := cX10_getState) (maxL := 2) (ret := (some .char)) (by decide) rfl ?_
  intro p e s m args below meth c s₁ B hml hv
  obtain ⟨rfl, hsz, hP, hK, hD0⟩ := hv
  have hx := B.exec
  have hb := B.bytes
  have hr := B.returns
  have hts0 := atoms_spec (ws := (pw_ws yX10_getState cX10_getState 2 (some .char))) B.pre
  have hts : ∀ w ∈ pw_all, w.before _ s = true := fun w h => hts0 w (List.mem_cons_of_mem _ h)
  have hown : s.vm.findClass RX10 = some m.cls := findClass_of_methodNamed B.named
  have hlocks := B.notSynchronized
  subst hsz
  have hD := hD0.self (sz := s.heap.size)
  generalize hAe : va_A [(h0, .inr (15, [v0, v1, v2, .ref a, v4, .int th])), (a, .inr (4, [w0, w1, .int 0]))] s.heap.size = A at hD ⊢
  have hA : ∀ q : Nat, s.heap.size ≤ q → A q := fun q h => by rw [← hAe]; exact Or.inr h
  have hS : va_S A s.heap s.heap [] := va_S.rf
  have hP : va_P (dC, dI) vwCl [(h0, .inr (15, [v0, v1, v2, .ref a, v4, .int th])), (a, .inr (4, [w0, w1, .int 0]))] s.heap := hP
  have hl := lv_entry ([.ref h0, .int p0]) (n := 2) (Nat.le_of_ble_eq_true rfl)
  rw [lg_entry_eq]
  generalize (lg_sl ([.ref h0, .int p0]) ++ List.replicate (2 - (lg_sl ([.ref h0, .int p0])).length) Slot.unset).toArray = ls at hl ⊢
  have hl : lv_has ls 2 [(0, .ref h0), (1, .int p0)] := hl
  skip
  refine lv_aload_n hx hb dX10_getState_0 rfl (lv_at hl 0 rfl) ?_
  refine lv_aload_n hx hb dX10_getState_1 rfl (lv_at hl 0 rfl) ?_
  refine lv_iload_n hx hb dX10_getState_2 rfl (lv_at hl 1 rfl) ?_
  have hPc := hP.sub (ws' := [(h0, .inr (15, [v0, v1, v2, .ref a, v4, .int th])), (a, .inr (4, [w0, w1, .int 0]))]) [0, 1] rfl
  have hDc := hD.sub (ws' := [(h0, .inr (15, [v0, v1, v2, .ref a, v4, .int th])), (a, .inr (4, [w0, w1, .int 0]))]) [0, 1] (by decide) rfl
  have hKc := hK.sub (tys' := []) [] rfl
  have hFc := va_free (wc := [(h0, .inr (15, [v0, v1, v2, .ref a, v4, .int th])), (a, .inr (4, [w0, w1, .int 0]))]) hD hS hA [0, 1] rfl
  refine va_calli (va_runV (As := [.int p0]) (rest := [.ref h0]) ⟨hx, hb, hml, hown, hts⟩ (n_isNoRun l dC dI s.heap.size h0 a v0 v1 v2 v4 (.int th) w0 w1 p0) (cwV 1 hts (pw_V q1518 q1520 q30 q49 q1521) rfl rfl rfl (by decide +kernel) ⟨(Nat.le_of_ble_eq_true rfl), (Nat.le_of_ble_eq_true rfl)⟩) ⟨fun a U g mk q => by obtain ⟨q0, q1, qP, qK, qD⟩ := q; exact ⟨q0, q1, qP, va_K.moved (u := U) (U := U.calling g mk a) (Vm.Alike.refl U.vm) qK, qD⟩, va_recv hKc hPc (ci := 15) (q0 := 0) rfl rfl, fun U hU hW => ⟨rfl, by rw [hU], by rw [hU]; exact hPc, va_K.moved hW.alike hKc, hDc.weaken (fun _ _ _ _ => trivial)⟩⟩ rfl rfl hl.1 rfl (lv_room (Nat.le_of_ble_eq_true rfl)) dX10_getState_3 ⟨(Nat.le_of_ble_eq_true rfl), (Nat.le_of_ble_eq_true rfl)⟩) hS (fun q _ h => hFc q h) hFc (fun r_332 u t H1 locs ht hvm hw hB hz1 hk1 hS => ?_)
  obtain ⟨hP1, hK1, hD1⟩ := hB
  rw [ht] at hP1
  have hK1 := va_K.moved hvm.symm hK1
  obtain ⟨hP, hD⟩ := va_join (wr := []) (w1 := [(h0, .inr (15, [v0, v1, v2, .ref a, v4, .int th])), (a, .inr (4, [w0, w1, .int 0]))]) hP hD [0, 1] [] rfl rfl (by decide) (by decide) hk1 hFc hP1 hD1
  have hK := (hK.sub (tys' := []) [] rfl).app hK1
  generalize H1 = H at hP hS ⊢
  have hP : va_P (dC, dI) vwCl [(h0, .inr (15, [v0, v1, v2, .ref a, v4, .int th])), (a, .inr (4, [w0, w1, .int 0]))] H := hP
  have hD : va_D A [(h0, .inr (15, [v0, v1, v2, .ref a, v4, .int th])), (a, .inr (4, [w0, w1, .int 0]))] := hD
  have hK : va_K (dC, dI) vwCl [] s := hK
  refine W.widen (k := 0) (n := 0) (Nat.le_of_ble_eq_true rfl) (Nat.le_of_ble_eq_true rfl) ?_
  have hw : r_332 = 1 := hw
  subst hw
  refine lv_iconst (v := 1) hx hb dX10_getState_6 (by decide) ?_
  have hPc := hP.sub (ws' := [(h0, .inr (15, [v0, v1, v2, .ref a, v4, .int th]))]) [0] rfl
  have hDc := hD.sub (ws' := [(h0, .inr (15, [v0, v1, v2, .ref a, v4, .int th]))]) [0] (by decide) rfl
  have hKc := hK.sub (tys' := []) [] rfl
  have hFc := va_free (wc := [(h0, .inr (15, [v0, v1, v2, .ref a, v4, .int th]))]) hD hS hA [0] rfl
  refine va_calli (va_runV (As := [.int 1, .int 1]) (rest := []) ⟨hx, hb, hml, hown, hts⟩ (n_isThrown1 l dC dI H.size h0 v0 v1 v2 (.ref a) v4 th 1) (cwV 2 hts (pw_V q1253 q1255 q19 q49 q1256) rfl rfl rfl (by decide +kernel) ⟨(Nat.le_of_ble_eq_true rfl), (Nat.le_of_ble_eq_true rfl)⟩) ⟨fun a U g mk q => by obtain ⟨q0, q1, qP, qK, qD⟩ := q; exact ⟨q0, q1, qP, va_K.moved (u := U) (U := U.calling g mk a) (Vm.Alike.refl U.vm) qK, qD⟩, va_recv hKc hPc (ci := 15) (q0 := 0) rfl rfl, fun U hU hW => ⟨rfl, by rw [hU], by rw [hU]; exact hPc, va_K.moved hW.alike hKc, hDc.weaken (fun _ _ _ _ => trivial)⟩⟩ rfl rfl hl.1 rfl (lv_room (Nat.le_of_ble_eq_true rfl)) dX10_getState_7 ⟨(Nat.le_of_ble_eq_true rfl), (Nat.le_of_ble_eq_true rfl)⟩) hS (fun q _ h => hFc q h) hFc (fun r_333 u t H1 locs ht hvm hw hB hz1 hk1 hS => ?_)
  obtain ⟨hP1, hK1, hD1⟩ := hB
  rw [ht] at hP1
  have hK1 := va_K.moved hvm.symm hK1
  obtain ⟨hP, hD⟩ := va_join (wr := [(a, .inr (4, [w0, w1, .int 0]))]) (w1 := [(h0, .inr (15, [v0, v1, v2, .ref a, v4, .int 1]))]) hP hD [0] [1] rfl rfl (by decide) (by decide) hk1 hFc hP1 hD1
  have hK := (hK.sub (tys' := []) [] rfl).app hK1
  generalize H1 = H at hP hS ⊢
  have hP : va_P (dC, dI) vwCl [(a, .inr (4, [w0, w1, .int 0])), (h0, .inr (15, [v0, v1, v2, .ref a, v4, .int 1]))] H := hP
  have hD : va_D A [(a, .inr (4, [w0, w1, .int 0])), (h0, .inr (15, [v0, v1, v2, .ref a, v4, .int 1]))] := hD
  have hK : va_K (dC, dI) vwCl [] s := hK
  refine W.widen (k := 0) (n := 0) (Nat.le_of_ble_eq_true rfl) (Nat.le_of_ble_eq_true rfl) ?_
  have hw : r_333 = 1 := hw
  subst hw
  refine lv_if_eq (tgt := 18) hx hb dX10_getState_10 (by decide) (fun c_334 => absurd c_334 (by decide)) (fun c_334 => ?_)
  refine lv_bipush (v := 32) hx hb dX10_getState_13 (by decide) ?_
  refine lv_goto (tgt := 32) hx hb dX10_getState_15 (by decide) ?_
  have hP9 := hP.sub (ws' := [(h0, .inr (15, [v0, v1, v2, .ref a, v4, .int 1])), (a, .inr (4, [w0, w1, .int 0]))]) [1, 0] rfl
  have hD9 := hD.sub (ws' := [(h0, .inr (15, [v0, v1, v2, .ref a, v4, .int 1])), (a, .inr (4, [w0, w1, .int 0]))]) [1, 0] (by decide) rfl
  have hK9 := hK.sub (tys' := []) [] rfl
  refine W.widen (k := 0) (n := 0) (Nat.le_of_ble_eq_true rfl) (Nat.le_of_ble_eq_true rfl) ?_
  exact W.zret (v := 32) hx hb hr (by decide) (fun t ht hW => ⟨⟨32, (), rfl, rfl, ⟨by rw [ht]; exact hP9, va_K.moved hW.alike hK9, hD9⟩⟩, hS.F ht⟩) hS.2.2 dX10_getState_32
set_option maxHeartbeats 4000000 in
set_option maxRecDepth 100000 in
theorem y_raise (l : Launch) (dC : Nat → ClassId) (dI : Nat → Nat → Nat) (sz : Nat) (h0 : Nat) (a : Nat) (v0 : Value) (v1 : Value) (v2 : Value) (v4 : Value) (w0 : Value) (w1 : Value) (th : Int32) (p0 : Int32) : Met l yX10_raise (pw_ws yX10_raise cX10_raise 3 (some .int)) ({ frames := 3, cells := 0, slots := 0, locals := 63 } : Room) (va_Pc [.ref h0, .int p0] (fun U => U.heap.size = sz ∧ va_P (dC, dI) vwCl [(h0, .inr (15, [v0, v1, v2, .ref a, v4, .int th])), (a, .inr (4, [w0, w1, .int 0]))] U.heap ∧ va_K (dC, dI) vwCl [] U ∧ va_D (fun _ => True) [(h0, .inr (15, [v0, v1, v2, .ref a, v4, .int th])), (a, .inr (4, [w0, w1, .int 0]))])) (va_Qi (fun (r : Int32) (_ : Unit) => r = 0) (fun (_ : Unit) (t : State) => va_P (dC, dI) vwCl [(h0, .inr (15, [v0, v1, v2, .ref a, v4, .int 1])), (a, .inr (4, [w0, w1, .int 0]))] t.heap ∧ va_K (dC, dI) vwCl [] t ∧ va_D (va_A [(h0, .inr (15, [v0, v1, v2, .ref a, v4, .int th])), (a, .inr (4, [w0, w1, .int 0]))] sz) [(h0, .inr (15, [v0, v1, v2, .ref a, v4, .int 1])), (a, .inr (4, [w0, w1, .int 0]))]) (va_A [(h0, .inr (15, [v0, v1, v2, .ref a, v4, .int th])), (a, .inr (4, [w0, w1, .int 0]))] sz)) 0 0 (va_A [(h0, .inr (15, [v0, v1, v2, .ref a, v4, .int th])), (a, .inr (4, [w0, w1, .int 0]))] sz) := by
  refine Met.ofW (cc := cX10_raise) (maxL := 3) (ret := (some .int)) (by decide) rfl ?_
  intro p e s m args below meth c s₁ B hml hv
  obtain ⟨rfl, hsz, hP, hK, hD0⟩ := hv
  have hx := B.exec
  have hb := B.bytes
  have hr := B.returns
  have hts0 := atoms_spec (ws := (pw_ws yX10_raise cX10_raise 3 (some .int))) B.pre
  have hts : ∀ w ∈ pw_all, w.before _ s = true := fun w h => hts0 w (List.mem_cons_of_mem _ h)
  have hown : s.vm.findClass RX10 = some m.cls := findClass_of_methodNamed B.named
  have hlocks := B.notSynchronized
  subst hsz
  have hD := hD0.self (sz := s.heap.size)
  generalize hAe : va_A [(h0, .inr (15, [v0, v1, v2, .ref a, v4, .int th])), (a, .inr (4, [w0, w1, .int 0]))] s.heap.size = A at hD ⊢
  have hA : ∀ q : Nat, s.heap.size ≤ q → A q := fun q h => by rw [← hAe]; exact Or.inr h
  have hS : va_S A s.heap s.heap [] := va_S.rf
  have hP : va_P (dC, dI) vwCl [(h0, .inr (15, [v0, v1, v2, .ref a, v4, .int th])), (a, .inr (4, [w0, w1, .int 0]))] s.heap := hP
  have hl := lv_entry ([.ref h0, .int p0]) (n := 3) (Nat.le_of_ble_eq_true rfl)
  rw [lg_entry_eq]
  generalize (lg_sl ([.ref h0, .int p0]) ++ List.replicate (3 - (lg_sl ([.ref h0, .int p0])).length) Slot.unset).toArray = ls at hl ⊢
  have hl : lv_has ls 3 [(0, .ref h0), (1, .int p0)] := hl
  skip
  refine lv_aload_n hx hb dX10_raise_0 rfl (lv_at hl 0 rfl) ?_
  refine lv_aload_n hx hb dX10_raise_1 rfl (lv_at hl 0 rfl) ?_
  refine lv_iload_n hx hb dX10_raise_2 rfl (lv_at hl 1 rfl) ?_
  have hPc := hP.sub (ws' := [(h0, .inr (15, [v0, v1, v2, .ref a, v4, .int th])), (a, .inr (4, [w0, w1, .int 0]))]) [0, 1] rfl
  have hDc := hD.sub (ws' := [(h0, .inr (15, [v0, v1, v2, .ref a, v4, .int th])), (a, .inr (4, [w0, w1, .int 0]))]) [0, 1] (by decide) rfl
  have hKc := hK.sub (tys' := []) [] rfl
  have hFc := va_free (wc := [(h0, .inr (15, [v0, v1, v2, .ref a, v4, .int th])), (a, .inr (4, [w0, w1, .int 0]))]) hD hS hA [0, 1] rfl
  refine va_calli (va_runV (As := [.int p0]) (rest := [.ref h0]) ⟨hx, hb, hml, hown, hts⟩ (n_isNoRun l dC dI s.heap.size h0 a v0 v1 v2 v4 (.int th) w0 w1 p0) (cwV 1 hts (pw_V q1518 q1520 q30 q49 q1521) rfl rfl rfl (by decide +kernel) ⟨(Nat.le_of_ble_eq_true rfl), (Nat.le_of_ble_eq_true rfl)⟩) ⟨fun a U g mk q => by obtain ⟨q0, q1, qP, qK, qD⟩ := q; exact ⟨q0, q1, qP, va_K.moved (u := U) (U := U.calling g mk a) (Vm.Alike.refl U.vm) qK, qD⟩, va_recv hKc hPc (ci := 15) (q0 := 0) rfl rfl, fun U hU hW => ⟨rfl, by rw [hU], by rw [hU]; exact hPc, va_K.moved hW.alike hKc, hDc.weaken (fun _ _ _ _ => trivial)⟩⟩ rfl rfl hl.1 rfl (lv_room (Nat.le_of_ble_eq_true rfl)) dX10_raise_3 ⟨(Nat.le_of_ble_eq_true rfl), (Nat.le_of_ble_eq_true rfl)⟩) hS (fun q _ h => hFc q h) hFc (fun r_335 u t H1 locs ht hvm hw hB hz1 hk1 hS => ?_)
  obtain ⟨hP1, hK1, hD1⟩ := hB
  rw [ht] at hP1
  have hK1 := va_K.moved hvm.symm hK1
  obtain ⟨hP, hD⟩ := va_join (wr := []) (w1 := [(h0, .inr (15, [v0, v1, v2, .ref a, v4, .int th])), (a, .inr (4, [w0, w1, .int 0]))]) hP hD [0, 1] [] rfl rfl (by decide) (by decide) hk1 hFc hP1 hD1
  have hK := (hK.sub (tys' := []) [] rfl).app hK1
  generalize H1 = H at hP hS ⊢
  have hP : va_P (dC, dI) vwCl [(h0, .inr (15, [v0, v1, v2, .ref a, v4, .int th])), (a, .inr (4, [w0, w1, .int 0]))] H := hP
  have hD : va_D A [(h0, .inr (15, [v0, v1, v2, .ref a, v4, .int th])), (a, .inr (4, [w0, w1, .int 0]))] := hD
  have hK : va_K (dC, dI) vwCl [] s := hK
  refine W.widen (k := 0) (n := 0) (Nat.le_of_ble_eq_true rfl) (Nat.le_of_ble_eq_true rfl) ?_
  have hw : r_335 = 1 := hw
  subst hw
  refine lv_iconst (v := 1) hx hb dX10_raise_6 (by decide) ?_
  have hPc := hP.sub (ws' := [(h0, .inr (15, [v0, v1, v2, .ref a, v4, .int th]))]) [0] rfl
  have hDc := hD.sub (ws' := [(h0, .inr (15, [v0, v1, v2, .ref a, v4, .int th]))]) [0] (by decide) rfl
  have hKc := hK.sub (tys' := []) [] rfl
  have hFc := va_free (wc := [(h0, .inr (15, [v0, v1, v2, .ref a, v4, .int th]))]) hD hS hA [0] rfl
  refine va_calli (va_runV (As := [.int 1, .int 1]) (rest := []) ⟨hx, hb, hml, hown, hts⟩ (n_isThrown1 l dC dI H.size h0 v0 v1 v2 (.ref a) v4 th 1) (cwV 2 hts (pw_V q1253 q1255 q19 q49 q1256) rfl rfl rfl (by decide +kernel) ⟨(Nat.le_of_ble_eq_true rfl), (Nat.le_of_ble_eq_true rfl)⟩) ⟨fun a U g mk q => by obtain ⟨q0, q1, qP, qK, qD⟩ := q; exact ⟨q0, q1, qP, va_K.moved (u := U) (U := U.calling g mk a) (Vm.Alike.refl U.vm) qK, qD⟩, va_recv hKc hPc (ci := 15) (q0 := 0) rfl rfl, fun U hU hW => ⟨rfl, by rw [hU], by rw [hU]; exact hPc, va_K.moved hW.alike hKc, hDc.weaken (fun _ _ _ _ => trivial)⟩⟩ rfl rfl hl.1 rfl (lv_room (Nat.le_of_ble_eq_true rfl)) dX10_raise_7 ⟨(Nat.le_of_ble_eq_true rfl), (Nat.le_of_ble_eq_true rfl)⟩) hS (fun q _ h => hFc q h) hFc (fun r_336 u t H1 locs ht hvm hw hB hz1 hk1 hS => ?_)
  obtain ⟨hP1, hK1, hD1⟩ := hB
  rw [ht] at hP1
  have hK1 := va_K.moved hvm.symm hK1
  obtain ⟨hP, hD⟩ := va_join (wr := [(a, .inr (4, [w0, w1, .int 0]))]) (w1 := [(h0, .inr (15, [v0, v1, v2, .ref a, v4, .int 1]))]) hP hD [0] [1] rfl rfl (by decide) (by decide) hk1 hFc hP1 hD1
  have hK := (hK.sub (tys' := []) [] rfl).app hK1
  generalize H1 = H at hP hS ⊢
  have hP : va_P (dC, dI) vwCl [(a, .inr (4, [w0, w1, .int 0])), (h0, .inr (15, [v0, v1, v2, .ref a, v4, .int 1]))] H := hP
  have hD : va_D A [(a, .inr (4, [w0, w1, .int 0])), (h0, .inr (15, [v0, v1, v2, .ref a, v4, .int 1]))] := hD
  have hK : va_K (dC, dI) vwCl [] s := hK
  refine W.widen (k := 0) (n := 0) (Nat.le_of_ble_eq_true rfl) (Nat.le_of_ble_eq_true rfl) ?_
  have hw : r_336 = 1 := hw
  subst hw
  refine lv_if_eq (tgt := 15) hx hb dX10_raise_10 (by decide) (fun c_337 => absurd c_337 (by decide)) (fun c_337 => ?_)
  refine lv_iconst (v := 0) hx hb dX10_raise_13 (by decide) ?_
  have hP9 := hP.sub (ws' := [(h0, .inr (15, [v0, v1, v2, .ref a, v4, .int 1])), (a, .inr (4, [w0, w1, .int 0]))]) [1, 0] rfl
  have hD9 := hD.sub (ws' := [(h0, .inr (15, [v0, v1, v2, .ref a, v4, .int 1])), (a, .inr (4, [w0, w1, .int 0]))]) [1, 0] (by decide) rfl
  have hK9 := hK.sub (tys' := []) [] rfl
  refine W.widen (k := 0) (n := 0) (Nat.le_of_ble_eq_true rfl) (Nat.le_of_ble_eq_true rfl) ?_
  exact W.iret (v := 0) hx hb hr (fun t ht hW => ⟨⟨0, (), rfl, rfl, ⟨by rw [ht]; exact hP9, va_K.moved hW.alike hK9, hD9⟩⟩, hS.F ht⟩) hS.2.2 dX10_raise_14
set_option maxHeartbeats 4000000 in
set_option maxRecDepth 100000 in
theorem y_takeUp (l : Launch) (dC : Nat → ClassId) (dI : Nat → Nat → Nat) (sz : Nat) (h0 : Nat) (a : Nat) (v0 : Value) (v1 : Value) (v2 : Value) (v4 : Value) (w0 : Value) (w1 : Value) (th : Int32) (p0 : Int32) : Met l yX10_takeUp (pw_ws yX10_takeUp cX10_takeUp 3 (some .int)) ({ frames := 3, cells := 0, slots := 0, locals := 63 } : Room) (va_Pc [.ref h0, .int p0] (fun U => U.heap.size = sz ∧ va_P (dC, dI) vwCl [(h0, .inr (15, [v0, v1, v2, .ref a, v4, .int th])), (a, .inr (4, [w0, w1, .int 0]))] U.heap ∧ va_K (dC, dI) vwCl [] U ∧ va_D (fun _ => True) [(h0, .inr (15, [v0, v1, v2, .ref a, v4, .int th])), (a, .inr (4, [w0, w1, .int 0]))])) (va_Qi (fun (r : Int32) (_ : Unit) => r = 0) (fun (_ : Unit) (t : State) => va_P (dC, dI) vwCl [(h0, .inr (15, [v0, v1, v2, .ref a, v4, .int 1])), (a, .inr (4, [w0, w1, .int 0]))] t.heap ∧ va_K (dC, dI) vwCl [] t ∧ va_D (va_A [(h0, .inr (15, [v0, v1, v2, .ref a, v4, .int th])), (a, .inr (4, [w0, w1, .int 0]))] sz) [(h0, .inr (15, [v0, v1, v2, .ref a, v4, .int 1])), (a, .inr (4, [w0, w1, .int 0]))]) (va_A [(h0, .inr (15, [v0, v1, v2, .ref a, v4, .int th])), (a, .inr (4, [w0, w1, .int 0]))] sz)) 0 0 (va_A [(h0, .inr (15, [v0, v1, v2, .ref a, v4, .int th])), (a, .inr (4, [w0, w1, .int 0]))] sz) := by
  refine Met.ofW (cc := cX10_takeUp) (maxL := 3) (ret := (some .int)) (by decide) rfl ?_
  intro p e s m args below meth c s₁ B hml hv
  obtain ⟨rfl, hsz, hP, hK, hD0⟩ := hv
  have hx := B.exec
  have hb := B.bytes
  have hr := B.returns
  have hts0 := atoms_spec (ws := (pw_ws yX10_takeUp cX10_takeUp 3 (some .int))) B.pre
  have hts : ∀ w ∈ pw_all, w.before _ s = true := fun w h => hts0 w (List.mem_cons_of_mem _ h)
  have hown : s.vm.findClass RX10 = some m.cls := findClass_of_methodNamed B.named
  have hlocks := B.notSynchronized
  subst hsz
  have hD := hD0.self (sz := s.heap.size)
  generalize hAe : va_A [(h0, .inr (15, [v0, v1, v2, .ref a, v4, .int th])), (a, .inr (4, [w0, w1, .int 0]))] s.heap.size = A at hD ⊢
  have hA : ∀ q : Nat, s.heap.size ≤ q → A q := fun q h => by rw [← hAe]; exact Or.inr h
  have hS : va_S A s.heap s.heap [] := va_S.rf
  have hP : va_P (dC, dI) vwCl [(h0, .inr (15, [v0, v1, v2, .ref a, v4, .int th])), (a, .inr (4, [w0, w1, .int 0]))] s.heap := hP
  have hl := lv_entry ([.ref h0, .int p0]) (n := 3) (Nat.le_of_ble_eq_true rfl)
  rw [lg_entry_eq]
  generalize (lg_sl ([.ref h0, .int p0]) ++ List.replicate (3 - (lg_sl ([.ref h0, .int p0])).length) Slot.unset).toArray = ls at hl ⊢
  have hl : lv_has ls 3 [(0, .ref h0), (1, .int p0)] := hl
  skip
  refine lv_aload_n hx hb dX10_takeUp_0 rfl (lv_at hl 0 rfl) ?_
  refine lv_aload_n hx hb dX10_takeUp_1 rfl (lv_at hl 0 rfl) ?_
  refine lv_iload_n hx hb dX10_takeUp_2 rfl (lv_at hl 1 rfl) ?_
  have hPc := hP.sub (ws' := [(h0, .inr (15, [v0, v1, v2, .ref a, v4, .int th])), (a, .inr (4, [w0, w1, .int 0]))]) [0, 1] rfl
  have hDc := hD.sub (ws' := [(h0, .inr (15, [v0, v1, v2, .ref a, v4, .int th])), (a, .inr (4, [w0, w1, .int 0]))]) [0, 1] (by decide) rfl
  have hKc := hK.sub (tys' := []) [] rfl
  have hFc := va_free (wc := [(h0, .inr (15, [v0, v1, v2, .ref a, v4, .int th])), (a, .inr (4, [w0, w1, .int 0]))]) hD hS hA [0, 1] rfl
  refine va_calli (va_runV (As := [.int p0]) (rest := [.ref h0]) ⟨hx, hb, hml, hown, hts⟩ (n_isNoRun l dC dI s.heap.size h0 a v0 v1 v2 v4 (.int th) w0 w1 p0) (cwV 1 hts (pw_V q1518 q1520 q30 q49 q1521) rfl rfl rfl (by decide +kernel) ⟨(Nat.le_of_ble_eq_true rfl), (Nat.le_of_ble_eq_true rfl)⟩) ⟨fun a U g mk q => by obtain ⟨q0, q1, qP, qK, qD⟩ := q; exact ⟨q0, q1, qP, va_K.moved (u := U) (U := U.calling g mk a) (Vm.Alike.refl U.vm) qK, qD⟩, va_recv hKc hPc (ci := 15) (q0 := 0) rfl rfl, fun U hU hW => ⟨rfl, by rw [hU], by rw [hU]; exact hPc, va_K.moved hW.alike hKc, hDc.weaken (fun _ _ _ _ => trivial)⟩⟩ rfl rfl hl.1 rfl (lv_room (Nat.le_of_ble_eq_true rfl)) dX10_takeUp_3 ⟨(Nat.le_of_ble_eq_true rfl), (Nat.le_of_ble_eq_true rfl)⟩) hS (fun q _ h => hFc q h) hFc (fun r_338 u t H1 locs ht hvm hw hB hz1 hk1 hS => ?_)
  obtain ⟨hP1, hK1, hD1⟩ := hB
  rw [ht] at hP1
  have hK1 := va_K.moved hvm.symm hK1
  obtain ⟨hP, hD⟩ := va_join (wr := []) (w1 := [(h0, .inr (15, [v0, v1, v2, .ref a, v4, .int th])), (a, .inr (4, [w0, w1, .int 0]))]) hP hD [0, 1] [] rfl rfl (by decide) (by decide) hk1 hFc hP1 hD1
  have hK := (hK.sub (tys' := []) [] rfl).app hK1
  generalize H1 = H at hP hS ⊢
  have hP : va_P (dC, dI) vwCl [(h0, .inr (15, [v0, v1, v2, .ref a, v4, .int th])), (a, .inr (4, [w0, w1, .int 0]))] H := hP
  have hD : va_D A [(h0, .inr (15, [v0, v1, v2, .ref a, v4, .int th])), (a, .inr (4, [w0, w1, .int 0]))] := hD
  have hK : va_K (dC, dI) vwCl [] s := hK
  refine W.widen (k := 0) (n := 0) (Nat.le_of_ble_eq_true rfl) (Nat.le_of_ble_eq_true rfl) ?_
  have hw : r_338 = 1 := hw
  subst hw
  refine lv_iconst (v := 1) hx hb dX10_takeUp_6 (by decide) ?_
  have hPc := hP.sub (ws' := [(h0, .inr (15, [v0, v1, v2, .ref a, v4, .int th]))]) [0] rfl
  have hDc := hD.sub (ws' := [(h0, .inr (15, [v0, v1, v2, .ref a, v4, .int th]))]) [0] (by decide) rfl
  have hKc := hK.sub (tys' := []) [] rfl
  have hFc := va_free (wc := [(h0, .inr (15, [v0, v1, v2, .ref a, v4, .int th]))]) hD hS hA [0] rfl
  refine va_calli (va_runV (As := [.int 1, .int 1]) (rest := []) ⟨hx, hb, hml, hown, hts⟩ (n_isThrown1 l dC dI H.size h0 v0 v1 v2 (.ref a) v4 th 1) (cwV 2 hts (pw_V q1253 q1255 q19 q49 q1256) rfl rfl rfl (by decide +kernel) ⟨(Nat.le_of_ble_eq_true rfl), (Nat.le_of_ble_eq_true rfl)⟩) ⟨fun a U g mk q => by obtain ⟨q0, q1, qP, qK, qD⟩ := q; exact ⟨q0, q1, qP, va_K.moved (u := U) (U := U.calling g mk a) (Vm.Alike.refl U.vm) qK, qD⟩, va_recv hKc hPc (ci := 15) (q0 := 0) rfl rfl, fun U hU hW => ⟨rfl, by rw [hU], by rw [hU]; exact hPc, va_K.moved hW.alike hKc, hDc.weaken (fun _ _ _ _ => trivial)⟩⟩ rfl rfl hl.1 rfl (lv_room (Nat.le_of_ble_eq_true rfl)) dX10_takeUp_7 ⟨(Nat.le_of_ble_eq_true rfl), (Nat.le_of_ble_eq_true rfl)⟩) hS (fun q _ h => hFc q h) hFc (fun r_339 u t H1 locs ht hvm hw hB hz1 hk1 hS => ?_)
  obtain ⟨hP1, hK1, hD1⟩ := hB
  rw [ht] at hP1
  have hK1 := va_K.moved hvm.symm hK1
  obtain ⟨hP, hD⟩ := va_join (wr := [(a, .inr (4, [w0, w1, .int 0]))]) (w1 := [(h0, .inr (15, [v0, v1, v2, .ref a, v4, .int 1]))]) hP hD [0] [1] rfl rfl (by decide) (by decide) hk1 hFc hP1 hD1
  have hK := (hK.sub (tys' := []) [] rfl).app hK1
  generalize H1 = H at hP hS ⊢
  have hP : va_P (dC, dI) vwCl [(a, .inr (4, [w0, w1, .int 0])), (h0, .inr (15, [v0, v1, v2, .ref a, v4, .int 1]))] H := hP
  have hD : va_D A [(a, .inr (4, [w0, w1, .int 0])), (h0, .inr (15, [v0, v1, v2, .ref a, v4, .int 1]))] := hD
  have hK : va_K (dC, dI) vwCl [] s := hK
  refine W.widen (k := 0) (n := 0) (Nat.le_of_ble_eq_true rfl) (Nat.le_of_ble_eq_true rfl) ?_
  have hw : r_339 = 1 := hw
  subst hw
  refine lv_if_ne (tgt := 45) hx hb dX10_takeUp_10 (by decide) (fun c_340 => ?_) (fun c_340 => absurd c_340 (by decide))
  refine lv_iconst (v := 0) hx hb dX10_takeUp_45 (by decide) ?_
  have hP9 := hP.sub (ws' := [(h0, .inr (15, [v0, v1, v2, .ref a, v4, .int 1])), (a, .inr (4, [w0, w1, .int 0]))]) [1, 0] rfl
  have hD9 := hD.sub (ws' := [(h0, .inr (15, [v0, v1, v2, .ref a, v4, .int 1])), (a, .inr (4, [w0, w1, .int 0]))]) [1, 0] (by decide) rfl
  have hK9 := hK.sub (tys' := []) [] rfl
  refine W.widen (k := 0) (n := 0) (Nat.le_of_ble_eq_true rfl) (Nat.le_of_ble_eq_true rfl) ?_
  exact W.iret (v := 0) hx hb hr (fun t ht hW => ⟨⟨0, (), rfl, rfl, ⟨by rw [ht]; exact hP9, va_K.moved hW.alike hK9, hD9⟩⟩, hS.F ht⟩) hS.2.2 dX10_takeUp_46
set_option maxHeartbeats 4000000 in
set_option maxRecDepth 100000 in
theorem y_sign (l : Launch) (dC : Nat → ClassId) (dI : Nat → Nat → Nat) (sz : Nat) (h0 : Nat) (a : Nat) (v0 : Value) (v1 : Value) (v2 : Value) (v4 : Value) (w0 : Value) (w1 : Value) (th : Int32) (p0 : Int32) (p1 : Int32) : Met l yX10_sign (pw_ws yX10_sign cX10_sign 3 (some .int)) ({ frames := 4, cells := 0, slots := 0, locals := 85 } : Room) (va_Pc [.ref h0, .int p0, .int p1] (fun U => U.heap.size = sz ∧ va_P (dC, dI) vwCl [(h0, .inr (15, [v0, v1, v2, .ref a, v4, .int th])), (a, .inr (4, [w0, w1, .int 0]))] U.heap ∧ va_K (dC, dI) vwCl [] U ∧ va_D (fun _ => True) [(h0, .inr (15, [v0, v1, v2, .ref a, v4, .int th])), (a, .inr (4, [w0, w1, .int 0]))])) (va_Qi (fun (r : Int32) (_ : Unit) => r = 0) (fun (_ : Unit) (t : State) => va_P (dC, dI) vwCl [(h0, .inr (15, [v0, v1, v2, .ref a, v4, .int 1])), (a, .inr (4, [w0, w1, .int 0]))] t.heap ∧ va_K (dC, dI) vwCl [] t ∧ va_D (va_A [(h0, .inr (15, [v0, v1, v2, .ref a, v4, .int th])), (a, .inr (4, [w0, w1, .int 0]))] sz) [(h0, .inr (15, [v0, v1, v2, .ref a, v4, .int 1])), (a, .inr (4, [w0, w1, .int 0]))]) (va_A [(h0, .inr (15, [v0, v1, v2, .ref a, v4, .int th])), (a, .inr (4, [w0, w1, .int 0]))] sz)) 0 0 (va_A [(h0, .inr (15, [v0, v1, v2, .ref a, v4, .int th])), (a, .inr (4, [w0, w1, .int 0]))] sz) := by
  refine Met.ofW (cc := cX10_sign) (maxL := 3) (ret := (some .int)) (by decide) rfl ?_
  intro p e s m args below meth c s₁ B hml hv
  obtain ⟨rfl, hsz, hP, hK, hD0⟩ := hv
  have hx := B.exec
  have hb := B.bytes
  have hr := B.returns
  have hts0 := atoms_spec (ws := (pw_ws yX10_sign cX10_sign 3 (some .int))) B.pre
  have hts : ∀ w ∈ pw_all, w.before _ s = true := fun w h => hts0 w (List.mem_cons_of_mem _ h)
  have hown : s.vm.findClass RX10 = some m.cls := findClass_of_methodNamed B.named
  have hlocks := B.notSynchronized
  subst hsz
  have hD := hD0.self (sz := s.heap.size)
  generalize hAe : va_A [(h0, .inr (15, [v0, v1, v2, .ref a, v4, .int th])), (a, .inr (4, [w0, w1, .int 0]))] s.heap.size = A at hD ⊢
  have hA : ∀ q : Nat, s.heap.size ≤ q → A q := fun q h => by rw [← hAe]; exact Or.inr h
  have hS : va_S A s.heap s.heap [] := va_S.rf
  have hP : va_P (dC, dI) vwCl [(h0, .inr (15, [v0, v1, v2, .ref a, v4, .int th])), (a, .inr (4, [w0, w1, .int 0]))] s.heap := hP
  have hl := lv_entry ([.ref h0, .int p0, .int p1]) (n := 3) (Nat.le_of_ble_eq_true rfl)
  rw [lg_entry_eq]
  generalize (lg_sl ([.ref h0, .int p0, .int p1]) ++ List.replicate (3 - (lg_sl ([.ref h0, .int p0, .int p1])).length) Slot.unset).toArray = ls at hl ⊢
  have hl : lv_has ls 3 [(0, .ref h0), (1, .int p0), (2, .int p1)] := hl
  skip
  refine lv_aload_n hx hb dX10_sign_0 rfl (lv_at hl 0 rfl) ?_
  refine lv_iload_n hx hb dX10_sign_1 rfl (lv_at hl 1 rfl) ?_
  refine lv_iload_n hx hb dX10_sign_2 rfl (lv_at hl 2 rfl) ?_
  have hPc := hP.sub (ws' := [(h0, .inr (15, [v0, v1, v2, .ref a, v4, .int th])), (a, .inr (4, [w0, w1, .int 0]))]) [0, 1] rfl
  have hDc := hD.sub (ws' := [(h0, .inr (15, [v0, v1, v2, .ref a, v4, .int th])), (a, .inr (4, [w0, w1, .int 0]))]) [0, 1] (by decide) rfl
  have hKc := hK.sub (tys' := []) [] rfl
  have hFc := va_free (wc := [(h0, .inr (15, [v0, v1, v2, .ref a, v4, .int th])), (a, .inr (4, [w0, w1, .int 0]))]) hD hS hA [0, 1] rfl
  refine va_calli (va_runV (As := [.int p0, .int p1]) (rest := []) ⟨hx, hb, hml, hown, hts⟩ (n_isNoBandOf l dC dI s.heap.size h0 a v0 v1 v2 v4 w0 w1 th p0 p1) (cwV 2 hts (pw_V q1583 q1585 q31 q49 q1586) rfl rfl rfl (by decide +kernel) ⟨(Nat.le_of_ble_eq_true rfl), (Nat.le_of_ble_eq_true rfl)⟩) ⟨fun a U g mk q => by obtain ⟨q0, q1, qP, qK, qD⟩ := q; exact ⟨q0, q1, qP, va_K.moved (u := U) (U := U.calling g mk a) (Vm.Alike.refl U.vm) qK, qD⟩, va_recv hKc hPc (ci := 15) (q0 := 0) rfl rfl, fun U hU hW => ⟨rfl, by rw [hU], by rw [hU]; exact hPc, va_K.moved hW.alike hKc, hDc.weaken (fun _ _ _ _ => trivial)⟩⟩ rfl rfl hl.1 rfl (lv_room (Nat.le_of_ble_eq_true rfl)) dX10_sign_3 ⟨(Nat.le_of_ble_eq_true rfl), (Nat.le_of_ble_eq_true rfl)⟩) hS (fun q _ h => hFc q h) hFc (fun r_341 u t H1 locs ht hvm hw hB hz1 hk1 hS => ?_)
  obtain ⟨hP1, hK1, hD1⟩ := hB
  rw [ht] at hP1
  have hK1 := va_K.moved hvm.symm hK1
  obtain ⟨hP, hD⟩ := va_join (wr := []) (w1 := [(h0, .inr (15, [v0, v1, v2, .ref a, v4, .int 1])), (a, .inr (4, [w0, w1, .int 0]))]) hP hD [0, 1] [] rfl rfl (by decide) (by decide) hk1 hFc hP1 hD1
  have hK := (hK.sub (tys' := []) [] rfl).app hK1
  generalize H1 = H at hP hS ⊢
  have hP : va_P (dC, dI) vwCl [(h0, .inr (15, [v0, v1, v2, .ref a, v4, .int 1])), (a, .inr (4, [w0, w1, .int 0]))] H := hP
  have hD : va_D A [(h0, .inr (15, [v0, v1, v2, .ref a, v4, .int 1])), (a, .inr (4, [w0, w1, .int 0]))] := hD
  have hK : va_K (dC, dI) vwCl [] s := hK
  refine W.widen (k := 0) (n := 0) (Nat.le_of_ble_eq_true rfl) (Nat.le_of_ble_eq_true rfl) ?_
  have hw : r_341 = 1 := hw
  subst hw
  refine lv_if_ne (tgt := 43) hx hb dX10_sign_6 (by decide) (fun c_342 => ?_) (fun c_342 => absurd c_342 (by decide))
  refine lv_iconst (v := 0) hx hb dX10_sign_43 (by decide) ?_
  have hP9 := hP.sub (ws' := [(h0, .inr (15, [v0, v1, v2, .ref a, v4, .int 1])), (a, .inr (4, [w0, w1, .int 0]))]) [0, 1] rfl
  have hD9 := hD.sub (ws' := [(h0, .inr (15, [v0, v1, v2, .ref a, v4, .int 1])), (a, .inr (4, [w0, w1, .int 0]))]) [0, 1] (by decide) rfl
  have hK9 := hK.sub (tys' := []) [] rfl
  refine W.widen (k := 0) (n := 0) (Nat.le_of_ble_eq_true rfl) (Nat.le_of_ble_eq_true rfl) ?_
  exact W.iret (v := 0) hx hb hr (fun t ht hW => ⟨⟨0, (), rfl, rfl, ⟨by rw [ht]; exact hP9, va_K.moved hW.alike hK9, hD9⟩⟩, hS.F ht⟩) hS.2.2 dX10_sign_44
set_option maxHeartbeats 4000000 in
set_option maxRecDepth 100000 in
theorem y_setNotch (l : Launch) (dC : Nat → ClassId) (dI : Nat → Nat → Nat) (sz : Nat) (h0 : Nat) (a : Nat) (v0 : Value) (v1 : Value) (v2 : Value) (v4 : Value) (w0 : Value) (w1 : Value) (th : Int32) (p0 : Int32) (p1 : Int32) (p2 : Int32) : Met l yX10_setNotch (pw_ws yX10_setNotch cX10_setNotch 6 (some .int)) ({ frames := 3, cells := 0, slots := 0, locals := 63 } : Room) (va_Pc [.ref h0, .int p0, .int p1, .int p2] (fun U => U.heap.size = sz ∧ va_P (dC, dI) vwCl [(h0, .inr (15, [v0, v1, v2, .ref a, v4, .int th])), (a, .inr (4, [w0, w1, .int 0]))] U.heap ∧ va_K (dC, dI) vwCl [] U ∧ va_D (fun _ => True) [(h0, .inr (15, [v0, v1, v2, .ref a, v4, .int th])), (a, .inr (4, [w0, w1, .int 0]))])) (va_Qi (fun (r : Int32) (_ : Unit) => r = 0) (fun (_ : Unit) (t : State) => va_P (dC, dI) vwCl [(h0, .inr (15, [v0, v1, v2, .ref a, v4, .int 1])), (a, .inr (4, [w0, w1, .int 0]))] t.heap ∧ va_K (dC, dI) vwCl [] t ∧ va_D (va_A [(h0, .inr (15, [v0, v1, v2, .ref a, v4, .int th])), (a, .inr (4, [w0, w1, .int 0]))] sz) [(h0, .inr (15, [v0, v1, v2, .ref a, v4, .int 1])), (a, .inr (4, [w0, w1, .int 0]))]) (va_A [(h0, .inr (15, [v0, v1, v2, .ref a, v4, .int th])), (a, .inr (4, [w0, w1, .int 0]))] sz)) 0 0 (va_A [(h0, .inr (15, [v0, v1, v2, .ref a, v4, .int th])), (a, .inr (4, [w0, w1, .int 0]))] sz) := by
  refine Met.ofW (cc := cX10_setNotch) (maxL := 6) (ret := (some .int)) (by decide) rfl ?_
  intro p e s m args below meth c s₁ B hml hv
  obtain ⟨rfl, hsz, hP, hK, hD0⟩ := hv
  have hx := B.exec
  have hb := B.bytes
  have hr := B.returns
  have hts0 := atoms_spec (ws := (pw_ws yX10_setNotch cX10_setNotch 6 (some .int))) B.pre
  have hts : ∀ w ∈ pw_all, w.before _ s = true := fun w h => hts0 w (List.mem_cons_of_mem _ h)
  have hown : s.vm.findClass RX10 = some m.cls := findClass_of_methodNamed B.named
  have hlocks := B.notSynchronized
  subst hsz
  have hD := hD0.self (sz := s.heap.size)
  generalize hAe : va_A [(h0, .inr (15, [v0, v1, v2, .ref a, v4, .int th])), (a, .inr (4, [w0, w1, .int 0]))] s.heap.size = A at hD ⊢
  have hA : ∀ q : Nat, s.heap.size ≤ q → A q := fun q h => by rw [← hAe]; exact Or.inr h
  have hS : va_S A s.heap s.heap [] := va_S.rf
  have hP : va_P (dC, dI) vwCl [(h0, .inr (15, [v0, v1, v2, .ref a, v4, .int th])), (a, .inr (4, [w0, w1, .int 0]))] s.heap := hP
  have hl := lv_entry ([.ref h0, .int p0, .int p1, .int p2]) (n := 6) (Nat.le_of_ble_eq_true rfl)
  rw [lg_entry_eq]
  generalize (lg_sl ([.ref h0, .int p0, .int p1, .int p2]) ++ List.replicate (6 - (lg_sl ([.ref h0, .int p0, .int p1, .int p2])).length) Slot.unset).toArray = ls at hl ⊢
  have hl : lv_has ls 6 [(0, .ref h0), (1, .int p0), (2, .int p1), (3, .int p2)] := hl
  skip
  refine lv_aload_n hx hb dX10_setNotch_0 rfl (lv_at hl 0 rfl) ?_
  refine lv_aload_n hx hb dX10_setNotch_1 rfl (lv_at hl 0 rfl) ?_
  refine lv_iload_n hx hb dX10_setNotch_2 rfl (lv_at hl 1 rfl) ?_
  have hPc := hP.sub (ws' := [(h0, .inr (15, [v0, v1, v2, .ref a, v4, .int th])), (a, .inr (4, [w0, w1, .int 0]))]) [0, 1] rfl
  have hDc := hD.sub (ws' := [(h0, .inr (15, [v0, v1, v2, .ref a, v4, .int th])), (a, .inr (4, [w0, w1, .int 0]))]) [0, 1] (by decide) rfl
  have hKc := hK.sub (tys' := []) [] rfl
  have hFc := va_free (wc := [(h0, .inr (15, [v0, v1, v2, .ref a, v4, .int th])), (a, .inr (4, [w0, w1, .int 0]))]) hD hS hA [0, 1] rfl
  refine va_calli (va_runV (As := [.int p0]) (rest := [.ref h0]) ⟨hx, hb, hml, hown, hts⟩ (n_isNoRun l dC dI s.heap.size h0 a v0 v1 v2 v4 (.int th) w0 w1 p0) (cwV 1 hts (pw_V q1518 q1520 q30 q49 q1521) rfl rfl rfl (by decide +kernel) ⟨(Nat.le_of_ble_eq_true rfl), (Nat.le_of_ble_eq_true rfl)⟩) ⟨fun a U g mk q => by obtain ⟨q0, q1, qP, qK, qD⟩ := q; exact ⟨q0, q1, qP, va_K.moved (u := U) (U := U.calling g mk a) (Vm.Alike.refl U.vm) qK, qD⟩, va_recv hKc hPc (ci := 15) (q0 := 0) rfl rfl, fun U hU hW => ⟨rfl, by rw [hU], by rw [hU]; exact hPc, va_K.moved hW.alike hKc, hDc.weaken (fun _ _ _ _ => trivial)⟩⟩ rfl rfl hl.1 rfl (lv_room (Nat.le_of_ble_eq_true rfl)) dX10_setNotch_3 ⟨(Nat.le_of_ble_eq_true rfl), (Nat.le_of_ble_eq_true rfl)⟩) hS (fun q _ h => hFc q h) hFc (fun r_343 u t H1 locs ht hvm hw hB hz1 hk1 hS => ?_)
  obtain ⟨hP1, hK1, hD1⟩ := hB
  rw [ht] at hP1
  have hK1 := va_K.moved hvm.symm hK1
  obtain ⟨hP, hD⟩ := va_join (wr := []) (w1 := [(h0, .inr (15, [v0, v1, v2, .ref a, v4, .int th])), (a, .inr (4, [w0, w1, .int 0]))]) hP hD [0, 1] [] rfl rfl (by decide) (by decide) hk1 hFc hP1 hD1
  have hK := (hK.sub (tys' := []) [] rfl).app hK1
  generalize H1 = H at hP hS ⊢
  have hP : va_P (dC, dI) vwCl [(h0, .inr (15, [v0, v1, v2, .ref a, v4, .int th])), (a, .inr (4, [w0, w1, .int 0]))] H := hP
  have hD : va_D A [(h0, .inr (15, [v0, v1, v2, .ref a, v4, .int th])), (a, .inr (4, [w0, w1, .int 0]))] := hD
  have hK : va_K (dC, dI) vwCl [] s := hK
  refine W.widen (k := 0) (n := 0) (Nat.le_of_ble_eq_true rfl) (Nat.le_of_ble_eq_true rfl) ?_
  have hw : r_343 = 1 := hw
  subst hw
  refine lv_iconst (v := 1) hx hb dX10_setNotch_6 (by decide) ?_
  have hPc := hP.sub (ws' := [(h0, .inr (15, [v0, v1, v2, .ref a, v4, .int th]))]) [0] rfl
  have hDc := hD.sub (ws' := [(h0, .inr (15, [v0, v1, v2, .ref a, v4, .int th]))]) [0] (by decide) rfl
  have hKc := hK.sub (tys' := []) [] rfl
  have hFc := va_free (wc := [(h0, .inr (15, [v0, v1, v2, .ref a, v4, .int th]))]) hD hS hA [0] rfl
  refine va_calli (va_runV (As := [.int 1, .int 1]) (rest := []) ⟨hx, hb, hml, hown, hts⟩ (n_isThrown1 l dC dI H.size h0 v0 v1 v2 (.ref a) v4 th 1) (cwV 2 hts (pw_V q1253 q1255 q19 q49 q1256) rfl rfl rfl (by decide +kernel) ⟨(Nat.le_of_ble_eq_true rfl), (Nat.le_of_ble_eq_true rfl)⟩) ⟨fun a U g mk q => by obtain ⟨q0, q1, qP, qK, qD⟩ := q; exact ⟨q0, q1, qP, va_K.moved (u := U) (U := U.calling g mk a) (Vm.Alike.refl U.vm) qK, qD⟩, va_recv hKc hPc (ci := 15) (q0 := 0) rfl rfl, fun U hU hW => ⟨rfl, by rw [hU], by rw [hU]; exact hPc, va_K.moved hW.alike hKc, hDc.weaken (fun _ _ _ _ => trivial)⟩⟩ rfl rfl hl.1 rfl (lv_room (Nat.le_of_ble_eq_true rfl)) dX10_setNotch_7 ⟨(Nat.le_of_ble_eq_true rfl), (Nat.le_of_ble_eq_true rfl)⟩) hS (fun q _ h => hFc q h) hFc (fun r_344 u t H1 locs ht hvm hw hB hz1 hk1 hS => ?_)
  obtain ⟨hP1, hK1, hD1⟩ := hB
  rw [ht] at hP1
  have hK1 := va_K.moved hvm.symm hK1
  obtain ⟨hP, hD⟩ := va_join (wr := [(a, .inr (4, [w0, w1, .int 0]))]) (w1 := [(h0, .inr (15, [v0, v1, v2, .ref a, v4, .int 1]))]) hP hD [0] [1] rfl rfl (by decide) (by decide) hk1 hFc hP1 hD1
  have hK := (hK.sub (tys' := []) [] rfl).app hK1
  generalize H1 = H at hP hS ⊢
  have hP : va_P (dC, dI) vwCl [(a, .inr (4, [w0, w1, .int 0])), (h0, .inr (15, [v0, v1, v2, .ref a, v4, .int 1]))] H := hP
  have hD : va_D A [(a, .inr (4, [w0, w1, .int 0])), (h0, .inr (15, [v0, v1, v2, .ref a, v4, .int 1]))] := hD
  have hK : va_K (dC, dI) vwCl [] s := hK
  refine W.widen (k := 0) (n := 0) (Nat.le_of_ble_eq_true rfl) (Nat.le_of_ble_eq_true rfl) ?_
  have hw : r_344 = 1 := hw
  subst hw
  refine lv_if_ne (tgt := 75) hx hb dX10_setNotch_10 (by decide) (fun c_345 => ?_) (fun c_345 => absurd c_345 (by decide))
  refine lv_iconst (v := 0) hx hb dX10_setNotch_75 (by decide) ?_
  have hP9 := hP.sub (ws' := [(h0, .inr (15, [v0, v1, v2, .ref a, v4, .int 1])), (a, .inr (4, [w0, w1, .int 0]))]) [1, 0] rfl
  have hD9 := hD.sub (ws' := [(h0, .inr (15, [v0, v1, v2, .ref a, v4, .int 1])), (a, .inr (4, [w0, w1, .int 0]))]) [1, 0] (by decide) rfl
  have hK9 := hK.sub (tys' := []) [] rfl
  refine W.widen (k := 0) (n := 0) (Nat.le_of_ble_eq_true rfl) (Nat.le_of_ble_eq_true rfl) ?_
  exact W.iret (v := 0) hx hb hr (fun t ht hW => ⟨⟨0, (), rfl, rfl, ⟨by rw [ht]; exact hP9, va_K.moved hW.alike hK9, hD9⟩⟩, hS.F ht⟩) hS.2.2 dX10_setNotch_76
set_option maxHeartbeats 4000000 in
set_option maxRecDepth 100000 in
theorem y_setAbort (l : Launch) (dC : Nat → ClassId) (dI : Nat → Nat → Nat) (sz : Nat) (h0 : Nat) (a : Nat) (v0 : Value) (v1 : Value) (v2 : Value) (v4 : Value) (w0 : Value) (w1 : Value) (th : Int32) (p0 : Int32) (p1 : Int32) : Met l yX10_setAbort (pw_ws yX10_setAbort cX10_setAbort 4 (some .int)) ({ frames := 3, cells := 0, slots := 0, locals := 63 } : Room) (va_Pc [.ref h0, .int p0, .int p1] (fun U => U.heap.size = sz ∧ va_P (dC, dI) vwCl [(h0, .inr (15, [v0, v1, v2, .ref a, v4, .int th])), (a, .inr (4, [w0, w1, .int 0]))] U.heap ∧ va_K (dC, dI) vwCl [] U ∧ va_D (fun _ => True) [(h0, .inr (15, [v0, v1, v2, .ref a, v4, .int th])), (a, .inr (4, [w0, w1, .int 0]))])) (va_Qi (fun (r : Int32) (_ : Unit) => r = 0) (fun (_ : Unit) (t : State) => va_P (dC, dI) vwCl [(h0, .inr (15, [v0, v1, v2, .ref a, v4, .int 1])), (a, .inr (4, [w0, w1, .int 0]))] t.heap ∧ va_K (dC, dI) vwCl [] t ∧ va_D (va_A [(h0, .inr (15, [v0, v1, v2, .ref a, v4, .int th])), (a, .inr (4, [w0, w1, .int 0]))] sz) [(h0, .inr (15, [v0, v1, v2, .ref a, v4, .int 1])), (a, .inr (4, [w0, w1, .int 0]))]) (va_A [(h0, .inr (15, [v0, v1, v2, .ref a, v4, .int th])), (a, .inr (4, [w0, w1, .int 0]))] sz)) 0 0 (va_A [(h0, .inr (15, [v0, v1, v2, .ref a, v4, .int th])), (a, .inr (4, [w0, w1, .int 0]))] sz) := by
  refine Met.ofW (cc := cX10_setAbort) (maxL := 4) (ret := (some .int)) (by decide) rfl ?_
  intro p e s m args below meth c s₁ B hml hv
  obtain ⟨rfl, hsz, hP, hK, hD0⟩ := hv
  have hx := B.exec
  have hb := B.bytes
  have hr := B.returns
  have hts0 := atoms_spec (ws := (pw_ws yX10_setAbort cX10_setAbort 4 (some .int))) B.pre
  have hts : ∀ w ∈ pw_all, w.before _ s = true := fun w h => hts0 w (List.mem_cons_of_mem _ h)
  have hown : s.vm.findClass RX10 = some m.cls := findClass_of_methodNamed B.named
  have hlocks := B.notSynchronized
  subst hsz
  have hD := hD0.self (sz := s.heap.size)
  generalize hAe : va_A [(h0, .inr (15, [v0, v1, v2, .ref a, v4, .int th])), (a, .inr (4, [w0, w1, .int 0]))] s.heap.size = A at hD ⊢
  have hA : ∀ q : Nat, s.heap.size ≤ q → A q := fun q h => by rw [← hAe]; exact Or.inr h
  have hS : va_S A s.heap s.heap [] := va_S.rf
  have hP : va_P (dC, dI) vwCl [(h0, .inr (15, [v0, v1, v2, .ref a, v4, .int th])), (a, .inr (4, [w0, w1, .int 0]))] s.heap := hP
  have hl := lv_entry ([.ref h0, .int p0, .int p1]) (n := 4) (Nat.le_of_ble_eq_true rfl)
  rw [lg_entry_eq]
  generalize (lg_sl ([.ref h0, .int p0, .int p1]) ++ List.replicate (4 - (lg_sl ([.ref h0, .int p0, .int p1])).length) Slot.unset).toArray = ls at hl ⊢
  have hl : lv_has ls 4 [(0, .ref h0), (1, .int p0), (2, .int p1)] := hl
  skip
  refine lv_aload_n hx hb dX10_setAbort_0 rfl (lv_at hl 0 rfl) ?_
  refine lv_aload_n hx hb dX10_setAbort_1 rfl (lv_at hl 0 rfl) ?_
  refine lv_iload_n hx hb dX10_setAbort_2 rfl (lv_at hl 1 rfl) ?_
  have hPc := hP.sub (ws' := [(h0, .inr (15, [v0, v1, v2, .ref a, v4, .int th])), (a, .inr (4, [w0, w1, .int 0]))]) [0, 1] rfl
  have hDc := hD.sub (ws' := [(h0, .inr (15, [v0, v1, v2, .ref a, v4, .int th])), (a, .inr (4, [w0, w1, .int 0]))]) [0, 1] (by decide) rfl
  have hKc := hK.sub (tys' := []) [] rfl
  have hFc := va_free (wc := [(h0, .inr (15, [v0, v1, v2, .ref a, v4, .int th])), (a, .inr (4, [w0, w1, .int 0]))]) hD hS hA [0, 1] rfl
  refine va_calli (va_runV (As := [.int p0]) (rest := [.ref h0]) ⟨hx, hb, hml, hown, hts⟩ (n_isNoRun l dC dI s.heap.size h0 a v0 v1 v2 v4 (.int th) w0 w1 p0) (cwV 1 hts (pw_V q1518 q1520 q30 q49 q1521) rfl rfl rfl (by decide +kernel) ⟨(Nat.le_of_ble_eq_true rfl), (Nat.le_of_ble_eq_true rfl)⟩) ⟨fun a U g mk q => by obtain ⟨q0, q1, qP, qK, qD⟩ := q; exact ⟨q0, q1, qP, va_K.moved (u := U) (U := U.calling g mk a) (Vm.Alike.refl U.vm) qK, qD⟩, va_recv hKc hPc (ci := 15) (q0 := 0) rfl rfl, fun U hU hW => ⟨rfl, by rw [hU], by rw [hU]; exact hPc, va_K.moved hW.alike hKc, hDc.weaken (fun _ _ _ _ => trivial)⟩⟩ rfl rfl hl.1 rfl (lv_room (Nat.le_of_ble_eq_true rfl)) dX10_setAbort_3 ⟨(Nat.le_of_ble_eq_true rfl), (Nat.le_of_ble_eq_true rfl)⟩) hS (fun q _ h => hFc q h) hFc (fun r_346 u t H1 locs ht hvm hw hB hz1 hk1 hS => ?_)
  obtain ⟨hP1, hK1, hD1⟩ := hB
  rw [ht] at hP1
  have hK1 := va_K.moved hvm.symm hK1
  obtain ⟨hP, hD⟩ := va_join (wr := []) (w1 := [(h0, .inr (15, [v0, v1, v2, .ref a, v4, .int th])), (a, .inr (4, [w0, w1, .int 0]))]) hP hD [0, 1] [] rfl rfl (by decide) (by decide) hk1 hFc hP1 hD1
  have hK := (hK.sub (tys' := []) [] rfl).app hK1
  generalize H1 = H at hP hS ⊢
  have hP : va_P (dC, dI) vwCl [(h0, .inr (15, [v0, v1, v2, .ref a, v4, .int th])), (a, .inr (4, [w0, w1, .int 0]))] H := hP
  have hD : va_D A [(h0, .inr (15, [v0, v1, v2, .ref a, v4, .int th])), (a, .inr (4, [w0, w1, .int 0]))] := hD
  have hK : va_K (dC, dI) vwCl [] s := hK
  refine W.widen (k := 0) (n := 0) (Nat.le_of_ble_eq_true rfl) (Nat.le_of_ble_eq_true rfl) ?_
  have hw : r_346 = 1 := hw
  subst hw
  refine lv_iconst (v := 1) hx hb dX10_setAbort_6 (by decide) ?_
  have hPc := hP.sub (ws' := [(h0, .inr (15, [v0, v1, v2, .ref a, v4, .int th]))]) [0] rfl
  have hDc := hD.sub (ws' := [(h0, .inr (15, [v0, v1, v2, .ref a, v4, .int th]))]) [0] (by decide) rfl
  have hKc := hK.sub (tys' := []) [] rfl
  have hFc := va_free (wc := [(h0, .inr (15, [v0, v1, v2, .ref a, v4, .int th]))]) hD hS hA [0] rfl
  refine va_calli (va_runV (As := [.int 1, .int 1]) (rest := []) ⟨hx, hb, hml, hown, hts⟩ (n_isThrown1 l dC dI H.size h0 v0 v1 v2 (.ref a) v4 th 1) (cwV 2 hts (pw_V q1253 q1255 q19 q49 q1256) rfl rfl rfl (by decide +kernel) ⟨(Nat.le_of_ble_eq_true rfl), (Nat.le_of_ble_eq_true rfl)⟩) ⟨fun a U g mk q => by obtain ⟨q0, q1, qP, qK, qD⟩ := q; exact ⟨q0, q1, qP, va_K.moved (u := U) (U := U.calling g mk a) (Vm.Alike.refl U.vm) qK, qD⟩, va_recv hKc hPc (ci := 15) (q0 := 0) rfl rfl, fun U hU hW => ⟨rfl, by rw [hU], by rw [hU]; exact hPc, va_K.moved hW.alike hKc, hDc.weaken (fun _ _ _ _ => trivial)⟩⟩ rfl rfl hl.1 rfl (lv_room (Nat.le_of_ble_eq_true rfl)) dX10_setAbort_7 ⟨(Nat.le_of_ble_eq_true rfl), (Nat.le_of_ble_eq_true rfl)⟩) hS (fun q _ h => hFc q h) hFc (fun r_347 u t H1 locs ht hvm hw hB hz1 hk1 hS => ?_)
  obtain ⟨hP1, hK1, hD1⟩ := hB
  rw [ht] at hP1
  have hK1 := va_K.moved hvm.symm hK1
  obtain ⟨hP, hD⟩ := va_join (wr := [(a, .inr (4, [w0, w1, .int 0]))]) (w1 := [(h0, .inr (15, [v0, v1, v2, .ref a, v4, .int 1]))]) hP hD [0] [1] rfl rfl (by decide) (by decide) hk1 hFc hP1 hD1
  have hK := (hK.sub (tys' := []) [] rfl).app hK1
  generalize H1 = H at hP hS ⊢
  have hP : va_P (dC, dI) vwCl [(a, .inr (4, [w0, w1, .int 0])), (h0, .inr (15, [v0, v1, v2, .ref a, v4, .int 1]))] H := hP
  have hD : va_D A [(a, .inr (4, [w0, w1, .int 0])), (h0, .inr (15, [v0, v1, v2, .ref a, v4, .int 1]))] := hD
  have hK : va_K (dC, dI) vwCl [] s := hK
  refine W.widen (k := 0) (n := 0) (Nat.le_of_ble_eq_true rfl) (Nat.le_of_ble_eq_true rfl) ?_
  have hw : r_347 = 1 := hw
  subst hw
  refine lv_if_ne (tgt := 36) hx hb dX10_setAbort_10 (by decide) (fun c_348 => ?_) (fun c_348 => absurd c_348 (by decide))
  refine lv_iconst (v := 0) hx hb dX10_setAbort_36 (by decide) ?_
  have hP9 := hP.sub (ws' := [(h0, .inr (15, [v0, v1, v2, .ref a, v4, .int 1])), (a, .inr (4, [w0, w1, .int 0]))]) [1, 0] rfl
  have hD9 := hD.sub (ws' := [(h0, .inr (15, [v0, v1, v2, .ref a, v4, .int 1])), (a, .inr (4, [w0, w1, .int 0]))]) [1, 0] (by decide) rfl
  have hK9 := hK.sub (tys' := []) [] rfl
  refine W.widen (k := 0) (n := 0) (Nat.le_of_ble_eq_true rfl) (Nat.le_of_ble_eq_true rfl) ?_
  exact W.iret (v := 0) hx hb hr (fun t ht hW => ⟨⟨0, (), rfl, rfl, ⟨by rw [ht]; exact hP9, va_K.moved hW.alike hK9, hD9⟩⟩, hS.F ht⟩) hS.2.2 dX10_setAbort_37
set_option maxHeartbeats 4000000 in
set_option maxRecDepth 100000 in
theorem y_getMinutes (l : Launch) (dC : Nat → ClassId) (dI : Nat → Nat → Nat) (sz : Nat) (h0 : Nat) (a : Nat) (v0 : Value) (v1 : Value) (v2 : Value) (v4 : Value) (w0 : Value) (w1 : Value) (th : Int32) (p0 : Int32) : Met l yX10_getMinutes (pw_ws yX10_getMinutes cX10_getMinutes 2 (some .int)) ({ frames := 3, cells := 0, slots := 0, locals := 63 } : Room) (va_Pc [.ref h0, .int p0] (fun U => U.heap.size = sz ∧ va_P (dC, dI) vwCl [(h0, .inr (15, [v0, v1, v2, .ref a, v4, .int th])), (a, .inr (4, [w0, w1, .int 0]))] U.heap ∧ va_K (dC, dI) vwCl [] U ∧ va_D (fun _ => True) [(h0, .inr (15, [v0, v1, v2, .ref a, v4, .int th])), (a, .inr (4, [w0, w1, .int 0]))])) (va_Qi (fun (r : Int32) (_ : Unit) => r = 0) (fun (_ : Unit) (t : State) => va_P (dC, dI) vwCl [(h0, .inr (15, [v0, v1, v2, .ref a, v4, .int 1])), (a, .inr (4, [w0, w1, .int 0]))] t.heap ∧ va_K (dC, dI) vwCl [] t ∧ va_D (va_A [(h0, .inr (15, [v0, v1, v2, .ref a, v4, .int th])), (a, .inr (4, [w0, w1, .int 0]))] sz) [(h0, .inr (15, [v0, v1, v2, .ref a, v4, .int 1])), (a, .inr (4, [w0, w1, .int 0]))]) (va_A [(h0, .inr (15, [v0, v1, v2, .ref a, v4, .int th])), (a, .inr (4, [w0, w1, .int 0]))] sz)) 0 0 (va_A [(h0, .inr (15, [v0, v1, v2, .ref a, v4, .int th])), (a, .inr (4, [w0, w1, .int 0]))] sz) := by
  refine Met.ofW (cc := cX10_getMinutes) (maxL := 2) (ret := (some .int)) (by decide) rfl ?_
  intro p e s m args below meth c s₁ B hml hv
  obtain ⟨rfl, hsz, hP, hK, hD0⟩ := hv
  have hx := B.exec
  have hb := B.bytes
  have hr := B.returns
  have hts0 := atoms_spec (ws := (pw_ws yX10_getMinutes cX10_getMinutes 2 (some .int))) B.pre
  have hts : ∀ w ∈ pw_all, w.before _ s = true := fun w h => hts0 w (List.mem_cons_of_mem _ h)
  have hown : s.vm.findClass RX10 = some m.cls := findClass_of_methodNamed B.named
  have hlocks := B.notSynchronized
  subst hsz
  have hD := hD0.self (sz := s.heap.size)
  generalize hAe : va_A [(h0, .inr (15, [v0, v1, v2, .ref a, v4, .int th])), (a, .inr (4, [w0, w1, .int 0]))] s.heap.size = A at hD ⊢
  have hA : ∀ q : Nat, s.heap.size ≤ q → A q := fun q h => by rw [← hAe]; exact Or.inr h
  have hS : va_S A s.heap s.heap [] := va_S.rf
  have hP : va_P (dC, dI) vwCl [(h0, .inr (15, [v0, v1, v2, .ref a, v4, .int th])), (a, .inr (4, [w0, w1, .int 0]))] s.heap := hP
  have hl := lv_entry ([.ref h0, .int p0]) (n := 2) (Nat.le_of_ble_eq_true rfl)
  rw [lg_entry_eq]
  generalize (lg_sl ([.ref h0, .int p0]) ++ List.replicate (2 - (lg_sl ([.ref h0, .int p0])).length) Slot.unset).toArray = ls at hl ⊢
  have hl : lv_has ls 2 [(0, .ref h0), (1, .int p0)] := hl
  skip
  refine lv_aload_n hx hb dX10_getMinutes_0 rfl (lv_at hl 0 rfl) ?_
  refine lv_aload_n hx hb dX10_getMinutes_1 rfl (lv_at hl 0 rfl) ?_
  refine lv_iload_n hx hb dX10_getMinutes_2 rfl (lv_at hl 1 rfl) ?_
  have hPc := hP.sub (ws' := [(h0, .inr (15, [v0, v1, v2, .ref a, v4, .int th])), (a, .inr (4, [w0, w1, .int 0]))]) [0, 1] rfl
  have hDc := hD.sub (ws' := [(h0, .inr (15, [v0, v1, v2, .ref a, v4, .int th])), (a, .inr (4, [w0, w1, .int 0]))]) [0, 1] (by decide) rfl
  have hKc := hK.sub (tys' := []) [] rfl
  have hFc := va_free (wc := [(h0, .inr (15, [v0, v1, v2, .ref a, v4, .int th])), (a, .inr (4, [w0, w1, .int 0]))]) hD hS hA [0, 1] rfl
  refine va_calli (va_runV (As := [.int p0]) (rest := [.ref h0]) ⟨hx, hb, hml, hown, hts⟩ (n_isNoRun l dC dI s.heap.size h0 a v0 v1 v2 v4 (.int th) w0 w1 p0) (cwV 1 hts (pw_V q1518 q1520 q30 q49 q1521) rfl rfl rfl (by decide +kernel) ⟨(Nat.le_of_ble_eq_true rfl), (Nat.le_of_ble_eq_true rfl)⟩) ⟨fun a U g mk q => by obtain ⟨q0, q1, qP, qK, qD⟩ := q; exact ⟨q0, q1, qP, va_K.moved (u := U) (U := U.calling g mk a) (Vm.Alike.refl U.vm) qK, qD⟩, va_recv hKc hPc (ci := 15) (q0 := 0) rfl rfl, fun U hU hW => ⟨rfl, by rw [hU], by rw [hU]; exact hPc, va_K.moved hW.alike hKc, hDc.weaken (fun _ _ _ _ => trivial)⟩⟩ rfl rfl hl.1 rfl (lv_room (Nat.le_of_ble_eq_true rfl)) dX10_getMinutes_3 ⟨(Nat.le_of_ble_eq_true rfl), (Nat.le_of_ble_eq_true rfl)⟩) hS (fun q _ h => hFc q h) hFc (fun r_349 u t H1 locs ht hvm hw hB hz1 hk1 hS => ?_)
  obtain ⟨hP1, hK1, hD1⟩ := hB
  rw [ht] at hP1
  have hK1 := va_K.moved hvm.symm hK1
  obtain ⟨hP, hD⟩ := va_join (wr := []) (w1 := [(h0, .inr (15, [v0, v1, v2, .ref a, v4, .int th])), (a, .inr (4, [w0, w1, .int 0]))]) hP hD [0, 1] [] rfl rfl (by decide) (by decide) hk1 hFc hP1 hD1
  have hK := (hK.sub (tys' := []) [] rfl).app hK1
  generalize H1 = H at hP hS ⊢
  have hP : va_P (dC, dI) vwCl [(h0, .inr (15, [v0, v1, v2, .ref a, v4, .int th])), (a, .inr (4, [w0, w1, .int 0]))] H := hP
  have hD : va_D A [(h0, .inr (15, [v0, v1, v2, .ref a, v4, .int th])), (a, .inr (4, [w0, w1, .int 0]))] := hD
  have hK : va_K (dC, dI) vwCl [] s := hK
  refine W.widen (k := 0) (n := 0) (Nat.le_of_ble_eq_true rfl) (Nat.le_of_ble_eq_true rfl) ?_
  have hw : r_349 = 1 := hw
  subst hw
  refine lv_iconst (v := 1) hx hb dX10_getMinutes_6 (by decide) ?_
  have hPc := hP.sub (ws' := [(h0, .inr (15, [v0, v1, v2, .ref a, v4, .int th]))]) [0] rfl
  have hDc := hD.sub (ws' := [(h0, .inr (15, [v0, v1, v2, .ref a, v4, .int th]))]) [0] (by decide) rfl
  have hKc := hK.sub (tys' := []) [] rfl
  have hFc := va_free (wc := [(h0, .inr (15, [v0, v1, v2, .ref a, v4, .int th]))]) hD hS hA [0] rfl
  refine va_calli (va_runV (As := [.int 1, .int 1]) (rest := []) ⟨hx, hb, hml, hown, hts⟩ (n_isThrown1 l dC dI H.size h0 v0 v1 v2 (.ref a) v4 th 1) (cwV 2 hts (pw_V q1253 q1255 q19 q49 q1256) rfl rfl rfl (by decide +kernel) ⟨(Nat.le_of_ble_eq_true rfl), (Nat.le_of_ble_eq_true rfl)⟩) ⟨fun a U g mk q => by obtain ⟨q0, q1, qP, qK, qD⟩ := q; exact ⟨q0, q1, qP, va_K.moved (u := U) (U := U.calling g mk a) (Vm.Alike.refl U.vm) qK, qD⟩, va_recv hKc hPc (ci := 15) (q0 := 0) rfl rfl, fun U hU hW => ⟨rfl, by rw [hU], by rw [hU]; exact hPc, va_K.moved hW.alike hKc, hDc.weaken (fun _ _ _ _ => trivial)⟩⟩ rfl rfl hl.1 rfl (lv_room (Nat.le_of_ble_eq_true rfl)) dX10_getMinutes_7 ⟨(Nat.le_of_ble_eq_true rfl), (Nat.le_of_ble_eq_true rfl)⟩) hS (fun q _ h => hFc q h) hFc (fun r_350 u t H1 locs ht hvm hw hB hz1 hk1 hS => ?_)
  obtain ⟨hP1, hK1, hD1⟩ := hB
  rw [ht] at hP1
  have hK1 := va_K.moved hvm.symm hK1
  obtain ⟨hP, hD⟩ := va_join (wr := [(a, .inr (4, [w0, w1, .int 0]))]) (w1 := [(h0, .inr (15, [v0, v1, v2, .ref a, v4, .int 1]))]) hP hD [0] [1] rfl rfl (by decide) (by decide) hk1 hFc hP1 hD1
  have hK := (hK.sub (tys' := []) [] rfl).app hK1
  generalize H1 = H at hP hS ⊢
  have hP : va_P (dC, dI) vwCl [(a, .inr (4, [w0, w1, .int 0])), (h0, .inr (15, [v0, v1, v2, .ref a, v4, .int 1]))] H := hP
  have hD : va_D A [(a, .inr (4, [w0, w1, .int 0])), (h0, .inr (15, [v0, v1, v2, .ref a, v4, .int 1]))] := hD
  have hK : va_K (dC, dI) vwCl [] s := hK
  refine W.widen (k := 0) (n := 0) (Nat.le_of_ble_eq_true rfl) (Nat.le_of_ble_eq_true rfl) ?_
  have hw : r_350 = 1 := hw
  subst hw
  refine lv_if_eq (tgt := 17) hx hb dX10_getMinutes_10 (by decide) (fun c_351 => absurd c_351 (by decide)) (fun c_351 => ?_)
  refine lv_iconst (v := 0) hx hb dX10_getMinutes_13 (by decide) ?_
  refine lv_goto (tgt := 31) hx hb dX10_getMinutes_14 (by decide) ?_
  have hP9 := hP.sub (ws' := [(h0, .inr (15, [v0, v1, v2, .ref a, v4, .int 1])), (a, .inr (4, [w0, w1, .int 0]))]) [1, 0] rfl
  have hD9 := hD.sub (ws' := [(h0, .inr (15, [v0, v1, v2, .ref a, v4, .int 1])), (a, .inr (4, [w0, w1, .int 0]))]) [1, 0] (by decide) rfl
  have hK9 := hK.sub (tys' := []) [] rfl
  refine W.widen (k := 0) (n := 0) (Nat.le_of_ble_eq_true rfl) (Nat.le_of_ble_eq_true rfl) ?_
  exact W.iret (v := 0) hx hb hr (fun t ht hW => ⟨⟨0, (), rfl, rfl, ⟨by rw [ht]; exact hP9, va_K.moved hW.alike hK9, hD9⟩⟩, hS.F ht⟩) hS.2.2 dX10_getMinutes_31
set_option maxHeartbeats 4000000 in
set_option maxRecDepth 100000 in
theorem y_countOver (l : Launch) (dC : Nat → ClassId) (dI : Nat → Nat → Nat) (sz : Nat) (h0 : Nat) (a : Nat) (v0 : Value) (v1 : Value) (v2 : Value) (v4 : Value) (w0 : Value) (w1 : Value) (th : Int32) (p0 : Int32) : Met l yX10_countOver (pw_ws yX10_countOver cX10_countOver 7 (some .int)) ({ frames := 3, cells := 0, slots := 0, locals := 63 } : Room) (va_Pc [.ref h0, .int p0] (fun U => U.heap.size = sz ∧ va_P (dC, dI) vwCl [(h0, .inr (15, [v0, v1, v2, .ref a, v4, .int th])), (a, .inr (4, [w0, w1, .int 0]))] U.heap ∧ va_K (dC, dI) vwCl [] U ∧ va_D (fun _ => True) [(h0, .inr (15, [v0, v1, v2, .ref a, v4, .int th])), (a, .inr (4, [w0, w1, .int 0]))])) (va_Qi (fun (r : Int32) (_ : Unit) => r = 0) (fun (_ : Unit) (t : State) => va_P (dC, dI) vwCl [(h0, .inr (15, [v0, v1, v2, .ref a, v4, .int 1])), (a, .inr (4, [w0, w1, .int 0]))] t.heap ∧ va_K (dC, dI) vwCl [] t ∧ va_D (va_A [(h0, .inr (15, [v0, v1, v2, .ref a, v4, .int th])), (a, .inr (4, [w0, w1, .int 0]))] sz) [(h0, .inr (15, [v0, v1, v2, .ref a, v4, .int 1])), (a, .inr (4, [w0, w1, .int 0]))]) (va_A [(h0, .inr (15, [v0, v1, v2, .ref a, v4, .int th])), (a, .inr (4, [w0, w1, .int 0]))] sz)) 0 0 (va_A [(h0, .inr (15, [v0, v1, v2, .ref a, v4, .int th])), (a, .inr (4, [w0, w1, .int 0]))] sz) := by
  refine Met.ofW (cc := cX10_countOver) (maxL := 7) (ret := (some .int)) (by decide) rfl ?_
  intro p e s m args below meth c s₁ B hml hv
  obtain ⟨rfl, hsz, hP, hK, hD0⟩ := hv
  have hx := B.exec
  have hb := B.bytes
  have hr := B.returns
  have hts0 := atoms_spec (ws := (pw_ws yX10_countOver cX10_countOver 7 (some .int))) B.pre
  have hts : ∀ w ∈ pw_all, w.before _ s = true := fun w h => hts0 w (List.mem_cons_of_mem _ h)
  have hown : s.vm.findClass RX10 = some m.cls := findClass_of_methodNamed B.named
  have hlocks := B.notSynchronized
  subst hsz
  have hD := hD0.self (sz := s.heap.size)
  generalize hAe : va_A [(h0, .inr (15, [v0, v1, v2, .ref a, v4, .int th])), (a, .inr (4, [w0, w1, .int 0]))] s.heap.size = A at hD ⊢
  have hA : ∀ q : Nat, s.heap.size ≤ q → A q := fun q h => by rw [← hAe]; exact Or.inr h
  have hS : va_S A s.heap s.heap [] := va_S.rf
  have hP : va_P (dC, dI) vwCl [(h0, .inr (15, [v0, v1, v2, .ref a, v4, .int th])), (a, .inr (4, [w0, w1, .int 0]))] s.heap := hP
  have hl := lv_entry ([.ref h0, .int p0]) (n := 7) (Nat.le_of_ble_eq_true rfl)
  rw [lg_entry_eq]
  generalize (lg_sl ([.ref h0, .int p0]) ++ List.replicate (7 - (lg_sl ([.ref h0, .int p0])).length) Slot.unset).toArray = ls at hl ⊢
  have hl : lv_has ls 7 [(0, .ref h0), (1, .int p0)] := hl
  skip
  refine lv_aload_n hx hb dX10_countOver_0 rfl (lv_at hl 0 rfl) ?_
  refine lv_aload_n hx hb dX10_countOver_1 rfl (lv_at hl 0 rfl) ?_
  refine lv_iload_n hx hb dX10_countOver_2 rfl (lv_at hl 1 rfl) ?_
  have hPc := hP.sub (ws' := [(h0, .inr (15, [v0, v1, v2, .ref a, v4, .int th])), (a, .inr (4, [w0, w1, .int 0]))]) [0, 1] rfl
  have hDc := hD.sub (ws' := [(h0, .inr (15, [v0, v1, v2, .ref a, v4, .int th])), (a, .inr (4, [w0, w1, .int 0]))]) [0, 1] (by decide) rfl
  have hKc := hK.sub (tys' := []) [] rfl
  have hFc := va_free (wc := [(h0, .inr (15, [v0, v1, v2, .ref a, v4, .int th])), (a, .inr (4, [w0, w1, .int 0]))]) hD hS hA [0, 1] rfl
  refine va_calli (va_runV (As := [.int p0]) (rest := [.ref h0]) ⟨hx, hb, hml, hown, hts⟩ (n_isNoRun l dC dI s.heap.size h0 a v0 v1 v2 v4 (.int th) w0 w1 p0) (cwV 1 hts (pw_V q1518 q1520 q30 q49 q1521) rfl rfl rfl (by decide +kernel) ⟨(Nat.le_of_ble_eq_true rfl), (Nat.le_of_ble_eq_true rfl)⟩) ⟨fun a U g mk q => by obtain ⟨q0, q1, qP, qK, qD⟩ := q; exact ⟨q0, q1, qP, va_K.moved (u := U) (U := U.calling g mk a) (Vm.Alike.refl U.vm) qK, qD⟩, va_recv hKc hPc (ci := 15) (q0 := 0) rfl rfl, fun U hU hW => ⟨rfl, by rw [hU], by rw [hU]; exact hPc, va_K.moved hW.alike hKc, hDc.weaken (fun _ _ _ _ => trivial)⟩⟩ rfl rfl hl.1 rfl (lv_room (Nat.le_of_ble_eq_true rfl)) dX10_countOver_3 ⟨(Nat.le_of_ble_eq_true rfl), (Nat.le_of_ble_eq_true rfl)⟩) hS (fun q _ h => hFc q h) hFc (fun r_352 u t H1 locs ht hvm hw hB hz1 hk1 hS => ?_)
  obtain ⟨hP1, hK1, hD1⟩ := hB
  rw [ht] at hP1
  have hK1 := va_K.moved hvm.symm hK1
  obtain ⟨hP, hD⟩ := va_join (wr := []) (w1 := [(h0, .inr (15, [v0, v1, v2, .ref a, v4, .int th])), (a, .inr (4, [w0, w1, .int 0]))]) hP hD [0, 1] [] rfl rfl (by decide) (by decide) hk1 hFc hP1 hD1
  have hK := (hK.sub (tys' := []) [] rfl).app hK1
  generalize H1 = H at hP hS ⊢
  have hP : va_P (dC, dI) vwCl [(h0, .inr (15, [v0, v1, v2, .ref a, v4, .int th])), (a, .inr (4, [w0, w1, .int 0]))] H := hP
  have hD : va_D A [(h0, .inr (15, [v0, v1, v2, .ref a, v4, .int th])), (a, .inr (4, [w0, w1, .int 0]))] := hD
  have hK : va_K (dC, dI) vwCl [] s := hK
  refine W.widen (k := 0) (n := 0) (Nat.le_of_ble_eq_true rfl) (Nat.le_of_ble_eq_true rfl) ?_
  have hw : r_352 = 1 := hw
  subst hw
  refine lv_iconst (v := 1) hx hb dX10_countOver_6 (by decide) ?_
  have hPc := hP.sub (ws' := [(h0, .inr (15, [v0, v1, v2, .ref a, v4, .int th]))]) [0] rfl
  have hDc := hD.sub (ws' := [(h0, .inr (15, [v0, v1, v2, .ref a, v4, .int th]))]) [0] (by decide) rfl
  have hKc := hK.sub (tys' := []) [] rfl
  have hFc := va_free (wc := [(h0, .inr (15, [v0, v1, v2, .ref a, v4, .int th]))]) hD hS hA [0] rfl
  refine va_calli (va_runV (As := [.int 1, .int 1]) (rest := []) ⟨hx, hb, hml, hown, hts⟩ (n_isThrown1 l dC dI H.size h0 v0 v1 v2 (.ref a) v4 th 1) (cwV 2 hts (pw_V q1253 q1255 q19 q49 q1256) rfl rfl rfl (by decide +kernel) ⟨(Nat.le_of_ble_eq_true rfl), (Nat.le_of_ble_eq_true rfl)⟩) ⟨fun a U g mk q => by obtain ⟨q0, q1, qP, qK, qD⟩ := q; exact ⟨q0, q1, qP, va_K.moved (u := U) (U := U.calling g mk a) (Vm.Alike.refl U.vm) qK, qD⟩, va_recv hKc hPc (ci := 15) (q0 := 0) rfl rfl, fun U hU hW => ⟨rfl, by rw [hU], by rw [hU]; exact hPc, va_K.moved hW.alike hKc, hDc.weaken (fun _ _ _ _ => trivial)⟩⟩ rfl rfl hl.1 rfl (lv_room (Nat.le_of_ble_eq_true rfl)) dX10_countOver_7 ⟨(Nat.le_of_ble_eq_true rfl), (Nat.le_of_ble_eq_true rfl)⟩) hS (fun q _ h => hFc q h) hFc (fun r_353 u t H1 locs ht hvm hw hB hz1 hk1 hS => ?_)
  obtain ⟨hP1, hK1, hD1⟩ := hB
  rw [ht] at hP1
  have hK1 := va_K.moved hvm.symm hK1
  obtain ⟨hP, hD⟩ := va_join (wr := [(a, .inr (4, [w0, w1, .int 0]))]) (w1 := [(h0, .inr (15, [v0, v1, v2, .ref a, v4, .int 1]))]) hP hD [0] [1] rfl rfl (by decide) (by decide) hk1 hFc hP1 hD1
  have hK := (hK.sub (tys' := []) [] rfl).app hK1
  generalize H1 = H at hP hS ⊢
  have hP : va_P (dC, dI) vwCl [(a, .inr (4, [w0, w1, .int 0])), (h0, .inr (15, [v0, v1, v2, .ref a, v4, .int 1]))] H := hP
  have hD : va_D A [(a, .inr (4, [w0, w1, .int 0])), (h0, .inr (15, [v0, v1, v2, .ref a, v4, .int 1]))] := hD
  have hK : va_K (dC, dI) vwCl [] s := hK
  refine W.widen (k := 0) (n := 0) (Nat.le_of_ble_eq_true rfl) (Nat.le_of_ble_eq_true rfl) ?_
  have hw : r_353 = 1 := hw
  subst hw
  refine lv_if_eq (tgt := 15) hx hb dX10_countOver_10 (by decide) (fun c_354 => absurd c_354 (by decide)) (fun c_354 => ?_)
  refine lv_iconst (v := 0) hx hb dX10_countOver_13 (by decide) ?_
  have hP9 := hP.sub (ws' := [(h0, .inr (15, [v0, v1, v2, .ref a, v4, .int 1])), (a, .inr (4, [w0, w1, .int 0]))]) [1, 0] rfl
  have hD9 := hD.sub (ws' := [(h0, .inr (15, [v0, v1, v2, .ref a, v4, .int 1])), (a, .inr (4, [w0, w1, .int 0]))]) [1, 0] (by decide) rfl
  have hK9 := hK.sub (tys' := []) [] rfl
  refine W.widen (k := 0) (n := 0) (Nat.le_of_ble_eq_true rfl) (Nat.le_of_ble_eq_true rfl) ?_
  exact W.iret (v := 0) hx hb hr (fun t ht hW => ⟨⟨0, (), rfl, rfl, ⟨by rw [ht]; exact hP9, va_K.moved hW.alike hK9, hD9⟩⟩, hS.F ht⟩) hS.2.2 dX10_countOver_14
set_option maxHeartbeats 4000000 in
set_option maxRecDepth 100000 in
theorem y_countEvents (l : Launch) (dC : Nat → ClassId) (dI : Nat → Nat → Nat) (sz : Nat) (h0 : Nat) (a : Nat) (v0 : Value) (v1 : Value) (v2 : Value) (v4 : Value) (w0 : Value) (w1 : Value) (th : Int32) (p0 : Int32) : Met l yX10_countEvents (pw_ws yX10_countEvents cX10_countEvents 2 (some .int)) ({ frames := 3, cells := 0, slots := 0, locals := 63 } : Room) (va_Pc [.ref h0, .int p0] (fun U => U.heap.size = sz ∧ va_P (dC, dI) vwCl [(h0, .inr (15, [v0, v1, v2, .ref a, v4, .int th])), (a, .inr (4, [w0, w1, .int 0]))] U.heap ∧ va_K (dC, dI) vwCl [] U ∧ va_D (fun _ => True) [(h0, .inr (15, [v0, v1, v2, .ref a, v4, .int th])), (a, .inr (4, [w0, w1, .int 0]))])) (va_Qi (fun (r : Int32) (_ : Unit) => r = 0) (fun (_ : Unit) (t : State) => va_P (dC, dI) vwCl [(h0, .inr (15, [v0, v1, v2, .ref a, v4, .int 1])), (a, .inr (4, [w0, w1, .int 0]))] t.heap ∧ va_K (dC, dI) vwCl [] t ∧ va_D (va_A [(h0, .inr (15, [v0, v1, v2, .ref a, v4, .int th])), (a, .inr (4, [w0, w1, .int 0]))] sz) [(h0, .inr (15, [v0, v1, v2, .ref a, v4, .int 1])), (a, .inr (4, [w0, w1, .int 0]))]) (va_A [(h0, .inr (15, [v0, v1, v2, .ref a, v4, .int th])), (a, .inr (4, [w0, w1, .int 0]))] sz)) 0 0 (va_A [(h0, .inr (15, [v0, v1, v2, .ref a, v4, .int th])), (a, .inr (4, [w0, w1, .int 0]))] sz) := by
  refine Met.ofW (cc := cX10_countEvents) (maxL := 2) (ret := (some .int)) (by decide) rfl ?_
  intro p e s m args below meth c s₁ B hml hv
  obtain ⟨rfl, hsz, hP, hK, hD0⟩ := hv
  have hx := B.exec
  have hb := B.bytes
  have hr := B.returns
  have hts0 := atoms_spec (ws := (pw_ws yX10_countEvents cX10_countEvents 2 (some .int))) B.pre
  have hts : ∀ w ∈ pw_all, w.before _ s = true := fun w h => hts0 w (List.mem_cons_of_mem _ h)
  have hown : s.vm.findClass RX10 = some m.cls := findClass_of_methodNamed B.named
  have hlocks := B.notSynchronized
  subst hsz
  have hD := hD0.self (sz := s.heap.size)
  generalize hAe : va_A [(h0, .inr (15, [v0, v1, v2, .ref a, v4, .int th])), (a, .inr (4, [w0, w1, .int 0]))] s.heap.size = A at hD ⊢
  have hA : ∀ q : Nat, s.heap.size ≤ q → A q := fun q h => by rw [← hAe]; exact Or.inr h
  have hS : va_S A s.heap s.heap [] := va_S.rf
  have hP : va_P (dC, dI) vwCl [(h0, .inr (15, [v0, v1, v2, .ref a, v4, .int th])), (a, .inr (4, [w0, w1, .int 0]))] s.heap := hP
  have hl := lv_entry ([.ref h0, .int p0]) (n := 2) (Nat.le_of_ble_eq_true rfl)
  rw [lg_entry_eq]
  generalize (lg_sl ([.ref h0, .int p0]) ++ List.replicate (2 - (lg_sl ([.ref h0, .int p0])).length) Slot.unset).toArray = ls at hl ⊢
  have hl : lv_has ls 2 [(0, .ref h0), (1, .int p0)] := hl
  skip
  refine lv_aload_n hx hb dX10_countEvents_0 rfl (lv_at hl 0 rfl) ?_
  refine lv_aload_n hx hb dX10_countEvents_1 rfl (lv_at hl 0 rfl) ?_
  refine lv_iload_n hx hb dX10_countEvents_2 rfl (lv_at hl 1 rfl) ?_
  have hPc := hP.sub (ws' := [(h0, .inr (15, [v0, v1, v2, .ref a, v4, .int th])), (a, .inr (4, [w0, w1, .int 0]))]) [0, 1] rfl
  have hDc := hD.sub (ws' := [(h0, .inr (15, [v0, v1, v2, .ref a, v4, .int th])), (a, .inr (4, [w0, w1, .int 0]))]) [0, 1] (by decide) rfl
  have hKc := hK.sub (tys' := []) [] rfl
  have hFc := va_free (wc := [(h0, .inr (15, [v0, v1, v2, .ref a, v4, .int th])), (a, .inr (4, [w0, w1, .int 0]))]) hD hS hA [0, 1] rfl
  refine va_calli (va_runV (As := [.int p0]) (rest := [.ref h0]) ⟨hx, hb, hml, hown, hts⟩ (n_isNoRun l dC dI s.heap.size h0 a v0 v1 v2 v4 (.int th) w0 w1 p0) (cwV 1 hts (pw_V q1518 q1520 q30 q49 q1521) rfl rfl rfl (by decide +kernel) ⟨(Nat.le_of_ble_eq_true rfl), (Nat.le_of_ble_eq_true rfl)⟩) ⟨fun a U g mk q => by obtain ⟨q0, q1, qP, qK, qD⟩ := q; exact ⟨q0, q1, qP, va_K.moved (u := U) (U := U.calling g mk a) (Vm.Alike.refl U.vm) qK, qD⟩, va_recv hKc hPc (ci := 15) (q0 := 0) rfl rfl, fun U hU hW => ⟨rfl, by rw [hU], by rw [hU]; exact hPc, va_K.moved hW.alike hKc, hDc.weaken (fun _ _ _ _ => trivial)⟩⟩ rfl rfl hl.1 rfl (lv_room (Nat.le_of_ble_eq_true rfl)) dX10_countEvents_3 ⟨(Nat.le_of_ble_eq_true rfl), (Nat.le_of_ble_eq_true rfl)⟩) hS (fun q _ h => hFc q h) hFc (fun r_355 u t H1 locs ht hvm hw hB hz1 hk1 hS => ?_)
  obtain ⟨hP1, hK1, hD1⟩ := hB
  rw [ht] at hP1
  have hK1 := va_K.moved hvm.symm hK1
  obtain ⟨hP, hD⟩ := va_join (wr := []) (w1 := [(h0, .inr (15, [v0, v1, v2, .ref a, v4, .int th])), (a, .inr (4, [w0, w1, .int 0]))]) hP hD [0, 1] [] rfl rfl (by decide) (by decide) hk1 hFc hP1 hD1
  have hK := (hK.sub (tys' := []) [] rfl).app hK1
  generalize H1 = H at hP hS ⊢
  have hP : va_P (dC, dI) vwCl [(h0, .inr (15, [v0, v1, v2, .ref a, v4, .int th])), (a, .inr (4, [w0, w1, .int 0]))] H := hP
  have hD : va_D A [(h0, .inr (15, [v0, v1, v2, .ref a, v4, .int th])), (a, .inr (4, [w0, w1, .int 0]))] := hD
  have hK : va_K (dC, dI) vwCl [] s := hK
  refine W.widen (k := 0) (n := 0) (Nat.le_of_ble_eq_true rfl) (Nat.le_of_ble_eq_true rfl) ?_
  have hw : r_355 = 1 := hw
  subst hw
  refine lv_iconst (v := 1) hx hb dX10_countEvents_6 (by decide) ?_
  have hPc := hP.sub (ws' := [(h0, .inr (15, [v0, v1, v2, .ref a, v4, .int th]))]) [0] rfl
  have hDc := hD.sub (ws' := [(h0, .inr (15, [v0, v1, v2, .ref a, v4, .int th]))]) [0] (by decide) rfl
  have hKc := hK.sub (tys' := []) [] rfl
  have hFc := va_free (wc := [(h0, .inr (15, [v0, v1, v2, .ref a, v4, .int th]))]) hD hS hA [0] rfl
  refine va_calli (va_runV (As := [.int 1, .int 1]) (rest := []) ⟨hx, hb, hml, hown, hts⟩ (n_isThrown1 l dC dI H.size h0 v0 v1 v2 (.ref a) v4 th 1) (cwV 2 hts (pw_V q1253 q1255 q19 q49 q1256) rfl rfl rfl (by decide +kernel) ⟨(Nat.le_of_ble_eq_true rfl), (Nat.le_of_ble_eq_true rfl)⟩) ⟨fun a U g mk q => by obtain ⟨q0, q1, qP, qK, qD⟩ := q; exact ⟨q0, q1, qP, va_K.moved (u := U) (U := U.calling g mk a) (Vm.Alike.refl U.vm) qK, qD⟩, va_recv hKc hPc (ci := 15) (q0 := 0) rfl rfl, fun U hU hW => ⟨rfl, by rw [hU], by rw [hU]; exact hPc, va_K.moved hW.alike hKc, hDc.weaken (fun _ _ _ _ => trivial)⟩⟩ rfl rfl hl.1 rfl (lv_room (Nat.le_of_ble_eq_true rfl)) dX10_countEvents_7 ⟨(Nat.le_of_ble_eq_true rfl), (Nat.le_of_ble_eq_true rfl)⟩) hS (fun q _ h => hFc q h) hFc (fun r_356 u t H1 locs ht hvm hw hB hz1 hk1 hS => ?_)
  obtain ⟨hP1, hK1, hD1⟩ := hB
  rw [ht] at hP1
  have hK1 := va_K.moved hvm.symm hK1
  obtain ⟨hP, hD⟩ := va_join (wr := [(a, .inr (4, [w0, w1, .int 0]))]) (w1 := [(h0, .inr (15, [v0, v1, v2, .ref a, v4, .int 1]))]) hP hD [0] [1] rfl rfl (by decide) (by decide) hk1 hFc hP1 hD1
  have hK := (hK.sub (tys' := []) [] rfl).app hK1
  generalize H1 = H at hP hS ⊢
  have hP : va_P (dC, dI) vwCl [(a, .inr (4, [w0, w1, .int 0])), (h0, .inr (15, [v0, v1, v2, .ref a, v4, .int 1]))] H := hP
  have hD : va_D A [(a, .inr (4, [w0, w1, .int 0])), (h0, .inr (15, [v0, v1, v2, .ref a, v4, .int 1]))] := hD
  have hK : va_K (dC, dI) vwCl [] s := hK
  refine W.widen (k := 0) (n := 0) (Nat.le_of_ble_eq_true rfl) (Nat.le_of_ble_eq_true rfl) ?_
  have hw : r_356 = 1 := hw
  subst hw
  refine lv_if_eq (tgt := 17) hx hb dX10_countEvents_10 (by decide) (fun c_357 => absurd c_357 (by decide)) (fun c_357 => ?_)
  refine lv_iconst (v := 0) hx hb dX10_countEvents_13 (by decide) ?_
  refine lv_goto (tgt := 34) hx hb dX10_countEvents_14 (by decide) ?_
  have hP9 := hP.sub (ws' := [(h0, .inr (15, [v0, v1, v2, .ref a, v4, .int 1])), (a, .inr (4, [w0, w1, .int 0]))]) [1, 0] rfl
  have hD9 := hD.sub (ws' := [(h0, .inr (15, [v0, v1, v2, .ref a, v4, .int 1])), (a, .inr (4, [w0, w1, .int 0]))]) [1, 0] (by decide) rfl
  have hK9 := hK.sub (tys' := []) [] rfl
  refine W.widen (k := 0) (n := 0) (Nat.le_of_ble_eq_true rfl) (Nat.le_of_ble_eq_true rfl) ?_
  exact W.iret (v := 0) hx hb hr (fun t ht hW => ⟨⟨0, (), rfl, rfl, ⟨by rw [ht]; exact hP9, va_K.moved hW.alike hK9, hD9⟩⟩, hS.F ht⟩) hS.2.2 dX10_countEvents_34
set_option maxHeartbeats 4000000 in
set_option maxRecDepth 100000 in
theorem y_getEvent (l : Launch) (dC : Nat → ClassId) (dI : Nat → Nat → Nat) (sz : Nat) (h0 : Nat) (a : Nat) (v0 : Value) (v1 : Value) (v2 : Value) (v4 : Value) (w0 : Value) (w1 : Value) (th : Int32) (p0 : Int32) (p1 : Int32) : Met l yX10_getEvent (pw_ws yX10_getEvent cX10_getEvent 3 (some .char)) ({ frames := 3, cells := 0, slots := 0, locals := 63 } : Room) (va_Pc [.ref h0, .int p0, .int p1] (fun U => U.heap.size = sz ∧ va_P (dC, dI) vwCl [(h0, .inr (15, [v0, v1, v2, .ref a, v4, .int th])), (a, .inr (4, [w0, w1, .int 0]))] U.heap ∧ va_K (dC, dI) vwCl [] U ∧ va_D (fun _ => True) [(h0, .inr (15, [v0, v1, v2, .ref a, v4, .int th])), (a, .inr (4, [w0, w1, .int 0]))])) (va_Qi (fun (r : Int32) (_ : Unit) => r = 32) (fun (_ : Unit) (t : State) => va_P (dC, dI) vwCl [(h0, .inr (15, [v0, v1, v2, .ref a, v4, .int 1])), (a, .inr (4, [w0, w1, .int 0]))] t.heap ∧ va_K (dC, dI) vwCl [] t ∧ va_D (va_A [(h0, .inr (15, [v0, v1, v2, .ref a, v4, .int th])), (a, .inr (4, [w0, w1, .int 0]))] sz) [(h0, .inr (15, [v0, v1, v2, .ref a, v4, .int 1])), (a, .inr (4, [w0, w1, .int 0]))]) (va_A [(h0, .inr (15, [v0, v1, v2, .ref a, v4, .int th])), (a, .inr (4, [w0, w1, .int 0]))] sz)) 0 0 (va_A [(h0, .inr (15, [v0, v1, v2, .ref a, v4, .int th])), (a, .inr (4, [w0, w1, .int 0]))] sz) := by
  refine Met.ofW (cc := cX10_getEvent) (maxL := 3) (ret := (some .char)) (by decide) rfl ?_
  intro p e s m args below meth c s₁ B hml hv
  obtain ⟨rfl, hsz, hP, hK, hD0⟩ := hv
  have hx := B.exec
  have hb := B.bytes
  have hr := B.returns
  have hts0 := atoms_spec (ws := (pw_ws yX10_getEvent cX10_getEvent 3 (some .char))) B.pre
  have hts : ∀ w ∈ pw_all, w.before _ s = true := fun w h => hts0 w (List.mem_cons_of_mem _ h)
  have hown : s.vm.findClass RX10 = some m.cls := findClass_of_methodNamed B.named
  have hlocks := B.notSynchronized
  subst hsz
  have hD := hD0.self (sz := s.heap.size)
  generalize hAe : va_A [(h0, .inr (15, [v0, v1, v2, .ref a, v4, .int th])), (a, .inr (4, [w0, w1, .int 0]))] s.heap.size = A at hD ⊢
  have hA : ∀ q : Nat, s.heap.size ≤ q → A q := fun q h => by rw [← hAe]; exact Or.inr h
  have hS : va_S A s.heap s.heap [] := va_S.rf
  have hP : va_P (dC, dI) vwCl [(h0, .inr (15, [v0, v1, v2, .ref a, v4, .int th])), (a, .inr (4, [w0, w1, .int 0]))] s.heap := hP
  have hl := lv_entry ([.ref h0, .int p0, .int p1]) (n := 3) (Nat.le_of_ble_eq_true rfl)
  rw [lg_entry_eq]
  generalize (lg_sl ([.ref h0, .int p0, .int p1]) ++ List.replicate (3 - (lg_sl ([.ref h0, .int p0, .int p1])).length) Slot.unset).toArray = ls at hl ⊢
  have hl : lv_has ls 3 [(0, .ref h0), (1, .int p0), (2, .int p1)] := hl
  skip
  refine lv_aload_n hx hb dX10_getEvent_0 rfl (lv_at hl 0 rfl) ?_
  refine lv_aload_n hx hb dX10_getEvent_1 rfl (lv_at hl 0 rfl) ?_
  refine lv_iload_n hx hb dX10_getEvent_2 rfl (lv_at hl 1 rfl) ?_
  have hPc := hP.sub (ws' := [(h0, .inr (15, [v0, v1, v2, .ref a, v4, .int th])), (a, .inr (4, [w0, w1, .int 0]))]) [0, 1] rfl
  have hDc := hD.sub (ws' := [(h0, .inr (15, [v0, v1, v2, .ref a, v4, .int th])), (a, .inr (4, [w0, w1, .int 0]))]) [0, 1] (by decide) rfl
  have hKc := hK.sub (tys' := []) [] rfl
  have hFc := va_free (wc := [(h0, .inr (15, [v0, v1, v2, .ref a, v4, .int th])), (a, .inr (4, [w0, w1, .int 0]))]) hD hS hA [0, 1] rfl
  refine va_calli (va_runV (As := [.int p0]) (rest := [.ref h0]) ⟨hx, hb, hml, hown, hts⟩ (n_isNoRun l dC dI s.heap.size h0 a v0 v1 v2 v4 (.int th) w0 w1 p0) (cwV 1 hts (pw_V q1518 q1520 q30 q49 q1521) rfl rfl rfl (by decide +kernel) ⟨(Nat.le_of_ble_eq_true rfl), (Nat.le_of_ble_eq_true rfl)⟩) ⟨fun a U g mk q => by obtain ⟨q0, q1, qP, qK, qD⟩ := q; exact ⟨q0, q1, qP, va_K.moved (u := U) (U := U.calling g mk a) (Vm.Alike.refl U.vm) qK, qD⟩, va_recv hKc hPc (ci := 15) (q0 := 0) rfl rfl, fun U hU hW => ⟨rfl, by rw [hU], by rw [hU]; exact hPc, va_K.moved hW.alike hKc, hDc.weaken (fun _ _ _ _ => trivial)⟩⟩ rfl rfl hl.1 rfl (lv_room (Nat.le_of_ble_eq_true rfl)) dX10_getEvent_3 ⟨(Nat.le_of_ble_eq_true rfl), (Nat.le_of_ble_eq_true rfl)⟩) hS (fun q _ h => hFc q h) hFc (fun r_358 u t H1 locs ht hvm hw hB hz1 hk1 hS => ?_)
  obtain ⟨hP1, hK1, hD1⟩ := hB
  rw [ht] at hP1
  have hK1 := va_K.moved hvm.symm hK1
  obtain ⟨hP, hD⟩ := va_join (wr := []) (w1 := [(h0, .inr (15, [v0, v1, v2, .ref a, v4, .int th])), (a, .inr (4, [w0, w1, .int 0]))]) hP hD [0, 1] [] rfl rfl (by decide) (by decide) hk1 hFc hP1 hD1
  have hK := (hK.sub (tys' := []) [] rfl).app hK1
  generalize H1 = H at hP hS ⊢
  have hP : va_P (dC, dI) vwCl [(h0, .inr (15, [v0, v1, v2, .ref a, v4, .int th])), (a, .inr (4, [w0, w1, .int 0]))] H := hP
  have hD : va_D A [(h0, .inr (15, [v0, v1, v2, .ref a, v4, .int th])), (a, .inr (4, [w0, w1, .int 0]))] := hD
  have hK : va_K (dC, dI) vwCl [] s := hK
  refine W.widen (k := 0) (n := 0) (Nat.le_of_ble_eq_true rfl) (Nat.le_of_ble_eq_true rfl) ?_
  have hw : r_358 = 1 := hw
  subst hw
  refine lv_iconst (v := 1) hx hb dX10_getEvent_6 (by decide) ?_
  have hPc := hP.sub (ws' := [(h0, .inr (15, [v0, v1, v2, .ref a, v4, .int th]))]) [0] rfl
  have hDc := hD.sub (ws' := [(h0, .inr (15, [v0, v1, v2, .ref a, v4, .int th]))]) [0] (by decide) rfl
  have hKc := hK.sub (tys' := []) [] rfl
  have hFc := va_free (wc := [(h0, .inr (15, [v0, v1, v2, .ref a, v4, .int th]))]) hD hS hA [0] rfl
  refine va_calli (va_runV (As := [.int 1, .int 1]) (rest := []) ⟨hx, hb, hml, hown, hts⟩ (n_isThrown1 l dC dI H.size h0 v0 v1 v2 (.ref a) v4 th 1) (cwV 2 hts (pw_V q1253 q1255 q19 q49 q1256) rfl rfl rfl (by decide +kernel) ⟨(Nat.le_of_ble_eq_true rfl), (Nat.le_of_ble_eq_true rfl)⟩) ⟨fun a U g mk q => by obtain ⟨q0, q1, qP, qK, qD⟩ := q; exact ⟨q0, q1, qP, va_K.moved (u := U) (U := U.calling g mk a) (Vm.Alike.refl U.vm) qK, qD⟩, va_recv hKc hPc (ci := 15) (q0 := 0) rfl rfl, fun U hU hW => ⟨rfl, by rw [hU], by rw [hU]; exact hPc, va_K.moved hW.alike hKc, hDc.weaken (fun _ _ _ _ => trivial)⟩⟩ rfl rfl hl.1 rfl (lv_room (Nat.le_of_ble_eq_true rfl)) dX10_getEvent_7 ⟨(Nat.le_of_ble_eq_true rfl), (Nat.le_of_ble_eq_true rfl)⟩) hS (fun q _ h => hFc q h) hFc (fun r_359 u t H1 locs ht hvm hw hB hz1 hk1 hS => ?_)
  obtain ⟨hP1, hK1, hD1⟩ := hB
  rw [ht] at hP1
  have hK1 := va_K.moved hvm.symm hK1
  obtain ⟨hP, hD⟩ := va_join (wr := [(a, .inr (4, [w0, w1, .int 0]))]) (w1 := [(h0, .inr (15, [v0, v1, v2, .ref a, v4, .int 1]))]) hP hD [0] [1] rfl rfl (by decide) (by decide) hk1 hFc hP1 hD1
  have hK := (hK.sub (tys' := []) [] rfl).app hK1
  generalize H1 = H at hP hS ⊢
  have hP : va_P (dC, dI) vwCl [(a, .inr (4, [w0, w1, .int 0])), (h0, .inr (15, [v0, v1, v2, .ref a, v4, .int 1]))] H := hP
  have hD : va_D A [(a, .inr (4, [w0, w1, .int 0])), (h0, .inr (15, [v0, v1, v2, .ref a, v4, .int 1]))] := hD
  have hK : va_K (dC, dI) vwCl [] s := hK
  refine W.widen (k := 0) (n := 0) (Nat.le_of_ble_eq_true rfl) (Nat.le_of_ble_eq_true rfl) ?_
  have hw : r_359 = 1 := hw
  subst hw
  refine lv_if_ne (tgt := 53) hx hb dX10_getEvent_10 (by decide) (fun c_360 => ?_) (fun c_360 => absurd c_360 (by decide))
  refine lv_bipush (v := 32) hx hb dX10_getEvent_53 (by decide) ?_
  have hP9 := hP.sub (ws' := [(h0, .inr (15, [v0, v1, v2, .ref a, v4, .int 1])), (a, .inr (4, [w0, w1, .int 0]))]) [1, 0] rfl
  have hD9 := hD.sub (ws' := [(h0, .inr (15, [v0, v1, v2, .ref a, v4, .int 1])), (a, .inr (4, [w0, w1, .int 0]))]) [1, 0] (by decide) rfl
  have hK9 := hK.sub (tys' := []) [] rfl
  refine W.widen (k := 0) (n := 0) (Nat.le_of_ble_eq_true rfl) (Nat.le_of_ble_eq_true rfl) ?_
  exact W.zret (v := 32) hx hb hr (by decide) (fun t ht hW => ⟨⟨32, (), rfl, rfl, ⟨by rw [ht]; exact hP9, va_K.moved hW.alike hK9, hD9⟩⟩, hS.F ht⟩) hS.2.2 dX10_getEvent_55
set_option maxHeartbeats 4000000 in
set_option maxRecDepth 100000 in
theorem y_bandShare (l : Launch) (dC : Nat → ClassId) (dI : Nat → Nat → Nat) (sz : Nat) (h0 : Nat) (a : Nat) (v0 : Value) (v1 : Value) (v2 : Value) (v4 : Value) (w0 : Value) (w1 : Value) (th : Int32) (p0 : Int32) : Met l yX10_bandShare (pw_ws yX10_bandShare cX10_bandShare 2 (some .float)) ({ frames := 3, cells := 0, slots := 0, locals := 63 } : Room) (va_Pc [.ref h0, .int p0] (fun U => U.heap.size = sz ∧ va_P (dC, dI) vwCl [(h0, .inr (15, [v0, v1, v2, .ref a, v4, .int th])), (a, .inr (4, [w0, w1, .int 0]))] U.heap ∧ va_K (dC, dI) vwCl [] U ∧ va_D (fun _ => True) [(h0, .inr (15, [v0, v1, v2, .ref a, v4, .int th])), (a, .inr (4, [w0, w1, .int 0]))])) (va_Qf (fun (r : UInt32) (_ : Unit) => r = 0) (fun (_ : Unit) (t : State) => va_P (dC, dI) vwCl [(h0, .inr (15, [v0, v1, v2, .ref a, v4, .int 1])), (a, .inr (4, [w0, w1, .int 0]))] t.heap ∧ va_K (dC, dI) vwCl [] t ∧ va_D (va_A [(h0, .inr (15, [v0, v1, v2, .ref a, v4, .int th])), (a, .inr (4, [w0, w1, .int 0]))] sz) [(h0, .inr (15, [v0, v1, v2, .ref a, v4, .int 1])), (a, .inr (4, [w0, w1, .int 0]))]) (va_A [(h0, .inr (15, [v0, v1, v2, .ref a, v4, .int th])), (a, .inr (4, [w0, w1, .int 0]))] sz)) 0 0 (va_A [(h0, .inr (15, [v0, v1, v2, .ref a, v4, .int th])), (a, .inr (4, [w0, w1, .int 0]))] sz) := by
  refine Met.ofW (cc := cX10_bandShare) (maxL := 2) (ret := (some .float)) (by decide) rfl ?_
  intro p e s m args below meth c s₁ B hml hv
  obtain ⟨rfl, hsz, hP, hK, hD0⟩ := hv
  have hx := B.exec
  have hb := B.bytes
  have hr := B.returns
  have hts0 := atoms_spec (ws := (pw_ws yX10_bandShare cX10_bandShare 2 (some .float))) B.pre
  have hts : ∀ w ∈ pw_all, w.before _ s = true := fun w h => hts0 w (List.mem_cons_of_mem _ h)
  have hown : s.vm.findClass RX10 = some m.cls := findClass_of_methodNamed B.named
  have hlocks := B.notSynchronized
  subst hsz
  have hD := hD0.self (sz := s.heap.size)
  generalize hAe : va_A [(h0, .inr (15, [v0, v1, v2, .ref a, v4, .int th])), (a, .inr (4, [w0, w1, .int 0]))] s.heap.size = A at hD ⊢
  have hA : ∀ q : Nat, s.heap.size ≤ q → A q := fun q h => by rw [← hAe]; exact Or.inr h
  have hS : va_S A s.heap s.heap [] := va_S.rf
  have hP : va_P (dC, dI) vwCl [(h0, .inr (15, [v0, v1, v2, .ref a, v4, .int th])), (a, .inr (4, [w0, w1, .int 0]))] s.heap := hP
  have hl := lv_entry ([.ref h0, .int p0]) (n := 2) (Nat.le_of_ble_eq_true rfl)
  rw [lg_entry_eq]
  generalize (lg_sl ([.ref h0, .int p0]) ++ List.replicate (2 - (lg_sl ([.ref h0, .int p0])).length) Slot.unset).toArray = ls at hl ⊢
  have hl : lv_has ls 2 [(0, .ref h0), (1, .int p0)] := hl
  skip
  refine lv_aload_n hx hb dX10_bandShare_0 rfl (lv_at hl 0 rfl) ?_
  refine lv_aload_n hx hb dX10_bandShare_1 rfl (lv_at hl 0 rfl) ?_
  refine lv_iload_n hx hb dX10_bandShare_2 rfl (lv_at hl 1 rfl) ?_
  have hPc := hP.sub (ws' := [(h0, .inr (15, [v0, v1, v2, .ref a, v4, .int th])), (a, .inr (4, [w0, w1, .int 0]))]) [0, 1] rfl
  have hDc := hD.sub (ws' := [(h0, .inr (15, [v0, v1, v2, .ref a, v4, .int th])), (a, .inr (4, [w0, w1, .int 0]))]) [0, 1] (by decide) rfl
  have hKc := hK.sub (tys' := []) [] rfl
  have hFc := va_free (wc := [(h0, .inr (15, [v0, v1, v2, .ref a, v4, .int th])), (a, .inr (4, [w0, w1, .int 0]))]) hD hS hA [0, 1] rfl
  refine va_calli (va_runV (As := [.int p0]) (rest := [.ref h0]) ⟨hx, hb, hml, hown, hts⟩ (n_isNoRun l dC dI s.heap.size h0 a v0 v1 v2 v4 (.int th) w0 w1 p0) (cwV 1 hts (pw_V q1518 q1520 q30 q49 q1521) rfl rfl rfl (by decide +kernel) ⟨(Nat.le_of_ble_eq_true rfl), (Nat.le_of_ble_eq_true rfl)⟩) ⟨fun a U g mk q => by obtain ⟨q0, q1, qP, qK, qD⟩ := q; exact ⟨q0, q1, qP, va_K.moved (u := U) (U := U.calling g mk a) (Vm.Alike.refl U.vm) qK, qD⟩, va_recv hKc hPc (ci := 15) (q0 := 0) rfl rfl, fun U hU hW => ⟨rfl, by rw [hU], by rw [hU]; exact hPc, va_K.moved hW.alike hKc, hDc.weaken (fun _ _ _ _ => trivial)⟩⟩ rfl rfl hl.1 rfl (lv_room (Nat.le_of_ble_eq_true rfl)) dX10_bandShare_3 ⟨(Nat.le_of_ble_eq_true rfl), (Nat.le_of_ble_eq_true rfl)⟩) hS (fun q _ h => hFc q h) hFc (fun r_361 u t H1 locs ht hvm hw hB hz1 hk1 hS => ?_)
  obtain ⟨hP1, hK1, hD1⟩ := hB
  rw [ht] at hP1
  have hK1 := va_K.moved hvm.symm hK1
  obtain ⟨hP, hD⟩ := va_join (wr := []) (w1 := [(h0, .inr (15, [v0, v1, v2, .ref a, v4, .int th])), (a, .inr (4, [w0, w1, .int 0]))]) hP hD [0, 1] [] rfl rfl (by decide) (by decide) hk1 hFc hP1 hD1
  have hK := (hK.sub (tys' := []) [] rfl).app hK1
  generalize H1 = H at hP hS ⊢
  have hP : va_P (dC, dI) vwCl [(h0, .inr (15, [v0, v1, v2, .ref a, v4, .int th])), (a, .inr (4, [w0, w1, .int 0]))] H := hP
  have hD : va_D A [(h0, .inr (15, [v0, v1, v2, .ref a, v4, .int th])), (a, .inr (4, [w0, w1, .int 0]))] := hD
  have hK : va_K (dC, dI) vwCl [] s := hK
  refine W.widen (k := 0) (n := 0) (Nat.le_of_ble_eq_true rfl) (Nat.le_of_ble_eq_true rfl) ?_
  have hw : r_361 = 1 := hw
  subst hw
  refine lv_iconst (v := 1) hx hb dX10_bandShare_6 (by decide) ?_
  have hPc := hP.sub (ws' := [(h0, .inr (15, [v0, v1, v2, .ref a, v4, .int th]))]) [0] rfl
  have hDc := hD.sub (ws' := [(h0, .inr (15, [v0, v1, v2, .ref a, v4, .int th]))]) [0] (by decide) rfl
  have hKc := hK.sub (tys' := []) [] rfl
  have hFc := va_free (wc := [(h0, .inr (15, [v0, v1, v2, .ref a, v4, .int th]))]) hD hS hA [0] rfl
  refine va_calli (va_runV (As := [.int 1, .int 1]) (rest := []) ⟨hx, hb, hml, hown, hts⟩ (n_isThrown1 l dC dI H.size h0 v0 v1 v2 (.ref a) v4 th 1) (cwV 2 hts (pw_V q1253 q1255 q19 q49 q1256) rfl rfl rfl (by decide +kernel) ⟨(Nat.le_of_ble_eq_true rfl), (Nat.le_of_ble_eq_true rfl)⟩) ⟨fun a U g mk q => by obtain ⟨q0, q1, qP, qK, qD⟩ := q; exact ⟨q0, q1, qP, va_K.moved (u := U) (U := U.calling g mk a) (Vm.Alike.refl U.vm) qK, qD⟩, va_recv hKc hPc (ci := 15) (q0 := 0) rfl rfl, fun U hU hW => ⟨rfl, by rw [hU], by rw [hU]; exact hPc, va_K.moved hW.alike hKc, hDc.weaken (fun _ _ _ _ => trivial)⟩⟩ rfl rfl hl.1 rfl (lv_room (Nat.le_of_ble_eq_true rfl)) dX10_bandShare_7 ⟨(Nat.le_of_ble_eq_true rfl), (Nat.le_of_ble_eq_true rfl)⟩) hS (fun q _ h => hFc q h) hFc (fun r_362 u t H1 locs ht hvm hw hB hz1 hk1 hS => ?_)
  obtain ⟨hP1, hK1, hD1⟩ := hB
  rw [ht] at hP1
  have hK1 := va_K.moved hvm.symm hK1
  obtain ⟨hP, hD⟩ := va_join (wr := [(a, .inr (4, [w0, w1, .int 0]))]) (w1 := [(h0, .inr (15, [v0, v1, v2, .ref a, v4, .int 1]))]) hP hD [0] [1] rfl rfl (by decide) (by decide) hk1 hFc hP1 hD1
  have hK := (hK.sub (tys' := []) [] rfl).app hK1
  generalize H1 = H at hP hS ⊢
  have hP : va_P (dC, dI) vwCl [(a, .inr (4, [w0, w1, .int 0])), (h0, .inr (15, [v0, v1, v2, .ref a, v4, .int 1]))] H := hP
  have hD : va_D A [(a, .inr (4, [w0, w1, .int 0])), (h0, .inr (15, [v0, v1, v2, .ref a, v4, .int 1]))] := hD
  have hK : va_K (dC, dI) vwCl [] s := hK
  refine W.widen (k := 0) (n := 0) (Nat.le_of_ble_eq_true rfl) (Nat.le_of_ble_eq_true rfl) ?_
  have hw : r_362 = 1 := hw
  subst hw
  refine lv_if_eq (tgt := 17) hx hb dX10_bandShare_10 (by decide) (fun c_363 => absurd c_363 (by decide)) (fun c_363 => ?_)
  refine lv_fconst0 hx hb dX10_bandShare_13 ?_
  refine lv_goto (tgt := 37) hx hb dX10_bandShare_14 (by decide) ?_
  have hP9 := hP.sub (ws' := [(h0, .inr (15, [v0, v1, v2, .ref a, v4, .int 1])), (a, .inr (4, [w0, w1, .int 0]))]) [1, 0] rfl
  have hD9 := hD.sub (ws' := [(h0, .inr (15, [v0, v1, v2, .ref a, v4, .int 1])), (a, .inr (4, [w0, w1, .int 0]))]) [1, 0] (by decide) rfl
  have hK9 := hK.sub (tys' := []) [] rfl
  refine W.widen (k := 0) (n := 0) (Nat.le_of_ble_eq_true rfl) (Nat.le_of_ble_eq_true rfl) ?_
  exact W.fret (v := 0) hx hb hr (fun t ht hW => ⟨⟨0, (), rfl, rfl, ⟨by rw [ht]; exact hP9, va_K.moved hW.alike hK9, hD9⟩⟩, hS.F ht⟩) hS.2.2 dX10_bandShare_37
set_option maxHeartbeats 4000000 in
set_option maxRecDepth 100000 in
theorem y_meanDrive (l : Launch) (dC : Nat → ClassId) (dI : Nat → Nat → Nat) (sz : Nat) (h0 : Nat) (a : Nat) (v0 : Value) (v1 : Value) (v2 : Value) (v4 : Value) (w0 : Value) (w1 : Value) (th : Int32) (p0 : Int32) : Met l yX10_meanDrive (pw_ws yX10_meanDrive cX10_meanDrive 2 (some .double)) ({ frames := 3, cells := 0, slots := 0, locals := 63 } : Room) (va_Pc [.ref h0, .int p0] (fun U => U.heap.size = sz ∧ va_P (dC, dI) vwCl [(h0, .inr (15, [v0, v1, v2, .ref a, v4, .int th])), (a, .inr (4, [w0, w1, .int 0]))] U.heap ∧ va_K (dC, dI) vwCl [] U ∧ va_D (fun _ => True) [(h0, .inr (15, [v0, v1, v2, .ref a, v4, .int th])), (a, .inr (4, [w0, w1, .int 0]))])) (va_Qd (fun (r : UInt64) (_ : Unit) => r = 0) (fun (_ : Unit) (t : State) => va_P (dC, dI) vwCl [(h0, .inr (15, [v0, v1, v2, .ref a, v4, .int 1])), (a, .inr (4, [w0, w1, .int 0]))] t.heap ∧ va_K (dC, dI) vwCl [] t ∧ va_D (va_A [(h0, .inr (15, [v0, v1, v2, .ref a, v4, .int th])), (a, .inr (4, [w0, w1, .int 0]))] sz) [(h0, .inr (15, [v0, v1, v2, .ref a, v4, .int 1])), (a, .inr (4, [w0, w1, .int 0]))]) (va_A [(h0, .inr (15, [v0, v1, v2, .ref a, v4, .int th])), (a, .inr (4, [w0, w1, .int 0]))] sz)) 0 0 (va_A [(h0, .inr (15, [v0, v1, v2, .ref a, v4, .int th])), (a, .inr (4, [w0, w1, .int 0]))] sz) := by
  refine Met.ofW (cc := cX10_meanDrive) (maxL := 2) (ret := (some .double)) (by decide) rfl ?_
  intro p e s m args below meth c s₁ B hml hv
  obtain ⟨rfl, hsz, hP, hK, hD0⟩ := hv
  have hx := B.exec
  have hb := B.bytes
  have hr := B.returns
  have hts0 := atoms_spec (ws := (pw_ws yX10_meanDrive cX10_meanDrive 2 (some .double))) B.pre
  have hts : ∀ w ∈ pw_all, w.before _ s = true := fun w h => hts0 w (List.mem_cons_of_mem _ h)
  have hown : s.vm.findClass RX10 = some m.cls := findClass_of_methodNamed B.named
  have hlocks := B.notSynchronized
  subst hsz
  have hD := hD0.self (sz := s.heap.size)
  generalize hAe : va_A [(h0, .inr (15, [v0, v1, v2, .ref a, v4, .int th])), (a, .inr (4, [w0, w1, .int 0]))] s.heap.size = A at hD ⊢
  have hA : ∀ q : Nat, s.heap.size ≤ q → A q := fun q h => by rw [← hAe]; exact Or.inr h
  have hS : va_S A s.heap s.heap [] := va_S.rf
  have hP : va_P (dC, dI) vwCl [(h0, .inr (15, [v0, v1, v2, .ref a, v4, .int th])), (a, .inr (4, [w0, w1, .int 0]))] s.heap := hP
  have hl := lv_entry ([.ref h0, .int p0]) (n := 2) (Nat.le_of_ble_eq_true rfl)
  rw [lg_entry_eq]
  generalize (lg_sl ([.ref h0, .int p0]) ++ List.replicate (2 - (lg_sl ([.ref h0, .int p0])).length) Slot.unset).toArray = ls at hl ⊢
  have hl : lv_has ls 2 [(0, .ref h0), (1, .int p0)] := hl
  skip
  refine lv_aload_n hx hb dX10_meanDrive_0 rfl (lv_at hl 0 rfl) ?_
  refine lv_aload_n hx hb dX10_meanDrive_1 rfl (lv_at hl 0 rfl) ?_
  refine lv_iload_n hx hb dX10_meanDrive_2 rfl (lv_at hl 1 rfl) ?_
  have hPc := hP.sub (ws' := [(h0, .inr (15, [v0, v1, v2, .ref a, v4, .int th])), (a, .inr (4, [w0, w1, .int 0]))]) [0, 1] rfl
  have hDc := hD.sub (ws' := [(h0, .inr (15, [v0, v1, v2, .ref a, v4, .int th])), (a, .inr (4, [w0, w1, .int 0]))]) [0, 1] (by decide) rfl
  have hKc := hK.sub (tys' := []) [] rfl
  have hFc := va_free (wc := [(h0, .inr (15, [v0, v1, v2, .ref a, v4, .int th])), (a, .inr (4, [w0, w1, .int 0]))]) hD hS hA [0, 1] rfl
  refine va_calli (va_runV (As := [.int p0]) (rest := [.ref h0]) ⟨hx, hb, hml, hown, hts⟩ (n_isNoRun l dC dI s.heap.size h0 a v0 v1 v2 v4 (.int th) w0 w1 p0) (cwV 1 hts (pw_V q1518 q1520 q30 q49 q1521) rfl rfl rfl (by decide +kernel) ⟨(Nat.le_of_ble_eq_true rfl), (Nat.le_of_ble_eq_true rfl)⟩) ⟨fun a U g mk q => by obtain ⟨q0, q1, qP, qK, qD⟩ := q; exact ⟨q0, q1, qP, va_K.moved (u := U) (U := U.calling g mk a) (Vm.Alike.refl U.vm) qK, qD⟩, va_recv hKc hPc (ci := 15) (q0 := 0) rfl rfl, fun U hU hW => ⟨rfl, by rw [hU], by rw [hU]; exact hPc, va_K.moved hW.alike hKc, hDc.weaken (fun _ _ _ _ => trivial)⟩⟩ rfl rfl hl.1 rfl (lv_room (Nat.le_of_ble_eq_true rfl)) dX10_meanDrive_3 ⟨(Nat.le_of_ble_eq_true rfl), (Nat.le_of_ble_eq_true rfl)⟩) hS (fun q _ h => hFc q h) hFc (fun r_364 u t H1 locs ht hvm hw hB hz1 hk1 hS => ?_)
  obtain ⟨hP1, hK1, hD1⟩ := hB
  rw [ht] at hP1
  have hK1 := va_K.moved hvm.symm hK1
  obtain ⟨hP, hD⟩ := va_join (wr := []) (w1 := [(h0, .inr (15, [v0, v1, v2, .ref a, v4, .int th])), (a, .inr (4, [w0, w1, .int 0]))]) hP hD [0, 1] [] rfl rfl (by decide) (by decide) hk1 hFc hP1 hD1
  have hK := (hK.sub (tys' := []) [] rfl).app hK1
  generalize H1 = H at hP hS ⊢
  have hP : va_P (dC, dI) vwCl [(h0, .inr (15, [v0, v1, v2, .ref a, v4, .int th])), (a, .inr (4, [w0, w1, .int 0]))] H := hP
  have hD : va_D A [(h0, .inr (15, [v0, v1, v2, .ref a, v4, .int th])), (a, .inr (4, [w0, w1, .int 0]))] := hD
  have hK : va_K (dC, dI) vwCl [] s := hK
  refine W.widen (k := 0) (n := 0) (Nat.le_of_ble_eq_true rfl) (Nat.le_of_ble_eq_true rfl) ?_
  have hw : r_364 = 1 := hw
  subst hw
  refine lv_iconst (v := 1) hx hb dX10_meanDrive_6 (by decide) ?_
  have hPc := hP.sub (ws' := [(h0, .inr (15, [v0, v1, v2, .ref a, v4, .int th]))]) [0] rfl
  have hDc := hD.sub (ws' := [(h0, .inr (15, [v0, v1, v2, .ref a, v4, .int th]))]) [0] (by decide) rfl
  have hKc := hK.sub (tys' := []) [] rfl
  have hFc := va_free (wc := [(h0, .inr (15, [v0, v1, v2, .ref a, v4, .int th]))]) hD hS hA [0] rfl
  refine va_calli (va_runV (As := [.int 1, .int 1]) (rest := []) ⟨hx, hb, hml, hown, hts⟩ (n_isThrown1 l dC dI H.size h0 v0 v1 v2 (.ref a) v4 th 1) (cwV 2 hts (pw_V q1253 q1255 q19 q49 q1256) rfl rfl rfl (by decide +kernel) ⟨(Nat.le_of_ble_eq_true rfl), (Nat.le_of_ble_eq_true rfl)⟩) ⟨fun a U g mk q => by obtain ⟨q0, q1, qP, qK, qD⟩ := q; exact ⟨q0, q1, qP, va_K.moved (u := U) (U := U.calling g mk a) (Vm.Alike.refl U.vm) qK, qD⟩, va_recv hKc hPc (ci := 15) (q0 := 0) rfl rfl, fun U hU hW => ⟨rfl, by rw [hU], by rw [hU]; exact hPc, va_K.moved hW.alike hKc, hDc.weaken (fun _ _ _ _ => trivial)⟩⟩ rfl rfl hl.1 rfl (lv_room (Nat.le_of_ble_eq_true rfl)) dX10_meanDrive_7 ⟨(Nat.le_of_ble_eq_true rfl), (Nat.le_of_ble_eq_true rfl)⟩) hS (fun q _ h => hFc q h) hFc (fun r_365 u t H1 locs ht hvm hw hB hz1 hk1 hS => ?_)
  obtain ⟨hP1, hK1, hD1⟩ := hB
  rw [ht] at hP1
  have hK1 := va_K.moved hvm.symm hK1
  obtain ⟨hP, hD⟩ := va_join (wr := [(a, .inr (4, [w0, w1, .int 0]))]) (w1 := [(h0, .inr (15, [v0, v1, v2, .ref a, v4, .int 1]))]) hP hD [0] [1] rfl rfl (by decide) (by decide) hk1 hFc hP1 hD1
  have hK := (hK.sub (tys' := []) [] rfl).app hK1
  generalize H1 = H at hP hS ⊢
  have hP : va_P (dC, dI) vwCl [(a, .inr (4, [w0, w1, .int 0])), (h0, .inr (15, [v0, v1, v2, .ref a, v4, .int 1]))] H := hP
  have hD : va_D A [(a, .inr (4, [w0, w1, .int 0])), (h0, .inr (15, [v0, v1, v2, .ref a, v4, .int 1]))] := hD
  have hK : va_K (dC, dI) vwCl [] s := hK
  refine W.widen (k := 0) (n := 0) (Nat.le_of_ble_eq_true rfl) (Nat.le_of_ble_eq_true rfl) ?_
  have hw : r_365 = 1 := hw
  subst hw
  refine lv_if_eq (tgt := 17) hx hb dX10_meanDrive_10 (by decide) (fun c_366 => absurd c_366 (by decide)) (fun c_366 => ?_)
  refine lv_dconst0 hx hb dX10_meanDrive_13 ?_
  refine lv_goto (tgt := 39) hx hb dX10_meanDrive_14 (by decide) ?_
  have hP9 := hP.sub (ws' := [(h0, .inr (15, [v0, v1, v2, .ref a, v4, .int 1])), (a, .inr (4, [w0, w1, .int 0]))]) [1, 0] rfl
  have hD9 := hD.sub (ws' := [(h0, .inr (15, [v0, v1, v2, .ref a, v4, .int 1])), (a, .inr (4, [w0, w1, .int 0]))]) [1, 0] (by decide) rfl
  have hK9 := hK.sub (tys' := []) [] rfl
  refine W.widen (k := 0) (n := 0) (Nat.le_of_ble_eq_true rfl) (Nat.le_of_ble_eq_true rfl) ?_
  exact W.dret (v := 0) hx hb hr (fun t ht hW => ⟨⟨0, (), rfl, rfl, ⟨by rw [ht]; exact hP9, va_K.moved hW.alike hK9, hD9⟩⟩, hS.F ht⟩) hS.2.2 dX10_meanDrive_39
