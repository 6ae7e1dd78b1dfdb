set_option maxHeartbeats 4000000 in
set_option maxRecDepth 100000 in
theorem m_itrInit (l : Launch) (dC : Nat → ClassId) (dI : Nat → Nat → Nat) (sz : Nat) (h0 : Nat) (a : Nat) (u3 : Value) (m0 : Int32) (w1 : Value) (w2 : Value) : Met l yJx35411_init_45d68 (pw_ws yJx35411_init_45d68 cJx35411_init_45d68 2 none) ({ frames := 1, cells := 0, slots := 0, locals := 20 } : Room) (va_Pc [.ref h0, .ref a] (fun U => U.heap.size = sz ∧ va_P (dC, dI) vwCl [(h0, .inr (3, [.int 0, .int 0, .int 0, u3])), (a, .inr (4, [.int m0, w1, w2]))] U.heap ∧ va_K (dC, dI) vwCl [] U ∧ va_D (fun _ => True) [(h0, .inr (3, [.int 0, .int 0, .int 0, u3])), (a, .inr (4, [.int m0, w1, w2]))])) (va_Qv (fun (_ : Unit) => True) (fun (_ : Unit) (t : State) => va_P (dC, dI) vwCl [(h0, .inr (3, [.int 0, .int (-1), .int m0, .ref a])), (a, .inr (4, [.int m0, w1, w2]))] t.heap ∧ va_K (dC, dI) vwCl [] t ∧ va_D (va_A [(h0, .inr (3, [.int 0, .int 0, .int 0, u3])), (a, .inr (4, [.int m0, w1, w2]))] sz) [(h0, .inr (3, [.int 0, .int (-1), .int m0, .ref a])), (a, .inr (4, [.int m0, w1, w2]))]) (va_A [(h0, .inr (3, [.int 0, .int 0, .int 0, u3])), (a, .inr (4, [.int m0, w1, w2]))] sz)) 0 0 (va_A [(h0, .inr (3, [.int 0, .int 0, .int 0, u3])), (a, .inr (4, [.int m0, w1, w2]))] sz) := by
  refine Met.ofW (cc := cJx35411_init_45d68) (maxL := 2) (ret := none) (by decide) rfl ?_
  intro p e s m args below meth c s₁ B hml hv
  obtain ⟨rfl, hsz, hP, hK, hD0⟩ := hv
  have hx := B.exec
  have hb := B.bytes
  have hr := B.returns
  have hts0 := atoms_spec (ws := (pw_ws yJx35411_init_45d68 cJx35411_init_45d68 2 none)) B.pre
  have hts : ∀ w ∈ pw_all, w.before _ s = true := fun w h => hts0 w (List.mem_cons_of_mem _ h)
  have hown : s.vm.findClass RJx35411 = some m.cls := findClass_of_methodNamed B.named
  have hlocks := B.notSynchronized
  have hin : meth.name = "<init>" := (name_of_methodNamed B.named B.method).1
  subst hsz
  have hD := hD0.self (sz := s.heap.size)
  generalize hAe : va_A [(h0, .inr (3, [.int 0, .int 0, .int 0, u3])), (a, .inr (4, [.int m0, w1, w2]))] s.heap.size = A at hD ⊢
  have hA : ∀ q : Nat, s.heap.size ≤ q → A q := fun q h => by rw [← hAe]; exact Or.inr h
  have hS : va_S A s.heap s.heap [] := va_S.rf
  have hP : va_P (dC, dI) vwCl [(h0, .inr (3, [.int 0, .int 0, .int 0, u3])), (a, .inr (4, [.int m0, w1, w2]))] s.heap := hP
  have hl := lv_entry ([.ref h0, .ref a]) (n := 2) (Nat.le_of_ble_eq_true rfl)
  rw [lg_entry_eq]
  generalize (lg_sl ([.ref h0, .ref a]) ++ List.replicate (2 - (lg_sl ([.ref h0, .ref a])).length) Slot.unset).toArray = ls at hl ⊢
  have hl : lv_has ls 2 [(0, .ref h0), (1, .ref a)] := hl
  skip
  refine lv_aload_n hx hb dJx35411_init_45d68_0 rfl (lv_at hl 0 rfl) ?_
  refine lv_aload_n hx hb dJx35411_init_45d68_1 rfl (lv_at hl 1 rfl) ?_
  refine va_putF (D := (dC, dI)) (ci := 3) (v := .ref a) (ty := .object "java/util/ArrayList") (C := RJx35411) (T := TJx35411) (N := 4) hx hb hts inJx35411 tyJx35411 tyJx35411_ok nmJx35411 hown hK hP hD hS 0 rfl rfl 3 (by decide) (hts _ q1535) (fun _ h9 => h9) rfl hin rfl (by decide +kernel) rfl rfl (Nat.le_of_ble_eq_true rfl) dJx35411_init_45d68_2 (fun H locs hP hD hS => ?_)
  have hP : va_P (dC, dI) vwCl [(h0, .inr (3, [.int 0, .int 0, .int 0, .ref a])), (a, .inr (4, [.int m0, w1, w2]))] H := hP
  have hD : va_D A [(h0, .inr (3, [.int 0, .int 0, .int 0, .ref a])), (a, .inr (4, [.int m0, w1, w2]))] := hD
  refine lv_aload_n hx hb dJx35411_init_45d68_5 rfl (lv_at hl 0 rfl) ?_
  refine W.objInit hx hb hown (hts _ q1531) (hts _ q86) (hts _ q87) rfl (by rw [hml]; exact hl.1) rfl dJx35411_init_45d68_6 (Nat.le_of_ble_eq_true rfl) (Nat.le_of_ble_eq_true rfl) ?_
  refine W.eq (g2 := F0 m 9 ls []) rfl ?_
  refine lv_aload_n hx hb dJx35411_init_45d68_9 rfl (lv_at hl 0 rfl) ?_
  refine lv_iconst (v := -1) hx hb dJx35411_init_45d68_10 (by decide) ?_
  refine va_put (D := (dC, dI)) (ci := 3) (v := .int (-1)) (ty := .int) (C := RJx35411) (T := TJx35411) (N := 4) hx hb hts inJx35411 tyJx35411 tyJx35411_ok nmJx35411 hown hK hP hD hS 0 rfl rfl 1 (by decide) (hts _ q1533) (fun _ h9 => h9) rfl (by decide +kernel) rfl rfl (Nat.le_of_ble_eq_true rfl) dJx35411_init_45d68_11 (fun H locs hP hD hS => ?_)
  have hP : va_P (dC, dI) vwCl [(h0, .inr (3, [.int 0, .int (-1), .int 0, .ref a])), (a, .inr (4, [.int m0, w1, w2]))] H := hP
  have hD : va_D A [(h0, .inr (3, [.int 0, .int (-1), .int 0, .ref a])), (a, .inr (4, [.int m0, w1, w2]))] := hD
  refine lv_aload_n hx hb dJx35411_init_45d68_14 rfl (lv_at hl 0 rfl) ?_
  refine lv_aload_n hx hb dJx35411_init_45d68_15 rfl (lv_at hl 0 rfl) ?_
  refine va_get (D := (dC, dI)) (ci := 3) (v := .ref a) (C := RJx35411) (T := TJx35411) (N := 4) hx hb hts inJx35411 hown hK hP 0 rfl rfl 3 (by decide) (hts _ q1535) (fun _ h9 => h9) rfl dJx35411_init_45d68_16 ?_
  refine va_get (D := (dC, dI)) (ci := 4) (v := .int m0) (C := RJx4a65c) (T := TJx4a65c) (N := 3) hx hb hts inJx4a65c hown hK hP 1 rfl rfl 0 (by decide) (hts _ q107) (fun x9 h9 => u_same (hts _ q108) x9 h9) rfl dJx35411_init_45d68_19 ?_
  refine va_put (D := (dC, dI)) (ci := 3) (v := .int m0) (ty := .int) (C := RJx35411) (T := TJx35411) (N := 4) hx hb hts inJx35411 tyJx35411 tyJx35411_ok nmJx35411 hown hK hP hD hS 0 rfl rfl 2 (by decide) (hts _ q1534) (fun _ h9 => h9) rfl (by decide +kernel) rfl rfl (Nat.le_of_ble_eq_true rfl) dJx35411_init_45d68_22 (fun H locs hP hD hS => ?_)
  have hP : va_P (dC, dI) vwCl [(h0, .inr (3, [.int 0, .int (-1), .int m0, .ref a])), (a, .inr (4, [.int m0, w1, w2]))] H := hP
  have hD : va_D A [(h0, .inr (3, [.int 0, .int (-1), .int m0, .ref a])), (a, .inr (4, [.int m0, w1, w2]))] := hD
  have hP9 := hP.sub (ws' := [(h0, .inr (3, [.int 0, .int (-1), .int m0, .ref a])), (a, .inr (4, [.int m0, w1, w2]))]) [0, 1] rfl
  have hD9 := hD.sub (ws' := [(h0, .inr (3, [.int 0, .int (-1), .int m0, .ref a])), (a, .inr (4, [.int m0, w1, w2]))]) [0, 1] (by decide) rfl
  have hK9 := hK.sub (tys' := []) [] rfl
  refine W.widen (k := 0) (n := 0) (Nat.le_of_ble_eq_true rfl) (Nat.le_of_ble_eq_true rfl) ?_
  exact W.vret hx hb hr (fun t ht hW => ⟨⟨(), rfl, trivial, ⟨by rw [ht]; exact hP9, va_K.moved hW.alike hK9, hD9⟩⟩, hS.F ht⟩) hS.2.2 dJx35411_init_45d68_25
set_option maxHeartbeats 4000000 in
set_option maxRecDepth 100000 in
theorem m_iterator (l : Launch) (dC : Nat → ClassId) (dI : Nat → Nat → Nat) (sz : Nat) (a : Nat) (m0 : Int32) (w1 : Value) (w2 : Value) : Met l yJx4a65c_iterator_32c93 (pw_ws yJx4a65c_iterator_32c93 cJx4a65c_iterator_32c93 1 (some (.object "java/util/Iterator"))) ({ frames := 2, cells := 1, slots := 4, locals := 41 } : Room) (va_Pc [.ref a] (fun U => U.heap.size = sz ∧ va_P (dC, dI) vwCl [(a, .inr (4, [.int m0, w1, w2]))] U.heap ∧ va_K (dC, dI) vwCl [] U ∧ va_D (fun _ => True) [(a, .inr (4, [.int m0, w1, w2]))])) (va_Qr (fun (_ : Unit) => True) (fun (_ : Unit) (ra : Nat) (t : State) => va_P (dC, dI) vwCl [(ra, .inr (3, [.int 0, .int (-1), .int m0, .ref a])), (a, .inr (4, [.int m0, w1, w2]))] t.heap ∧ va_K (dC, dI) vwCl [] t ∧ va_D (va_A [(a, .inr (4, [.int m0, w1, w2]))] sz) [(ra, .inr (3, [.int 0, .int (-1), .int m0, .ref a])), (a, .inr (4, [.int m0, w1, w2]))]) (va_A [(a, .inr (4, [.int m0, w1, w2]))] sz)) 1 4 (va_A [(a, .inr (4, [.int m0, w1, w2]))] sz) := by
  refine Met.ofW (cc := cJx4a65c_iterator_32c93) (maxL := 1) (ret := (some (.object "java/util/Iterator"))) (by decide) rfl ?_
  intro p e s m args below meth c s₁ B hml hv
  obtain ⟨rfl, hsz, hP, hK, hD0⟩ := hv
  have hx := B.exec
  have hb := B.bytes
  have hr := B.returns
  have hts0 := atoms_spec (ws := (pw_ws yJx4a65c_iterator_32c93 cJx4a65c_iterator_32c93 1 (some (.object "java/util/Iterator")))) B.pre
  have hts : ∀ w ∈ pw_all, w.before _ s = true := fun w h => hts0 w (List.mem_cons_of_mem _ h)
  have hown : s.vm.findClass RJx4a65c = some m.cls := findClass_of_methodNamed B.named
  have hlocks := B.notSynchronized
  subst hsz
  have hD := hD0.self (sz := s.heap.size)
  generalize hAe : va_A [(a, .inr (4, [.int m0, w1, w2]))] s.heap.size = A at hD ⊢
  have hA : ∀ q : Nat, s.heap.size ≤ q → A q := fun q h => by rw [← hAe]; exact Or.inr h
  have hS : va_S A s.heap s.heap [] := va_S.rf
  have hP : va_P (dC, dI) vwCl [(a, .inr (4, [.int m0, w1, w2]))] s.heap := hP
  have hl := lv_entry ([.ref a]) (n := 1) (Nat.le_of_ble_eq_true rfl)
  rw [lg_entry_eq]
  generalize (lg_sl ([.ref a]) ++ List.replicate (1 - (lg_sl ([.ref a])).length) Slot.unset).toArray = ls at hl ⊢
  have hl : lv_has ls 1 [(0, .ref a)] := hl
  skip
  refine va_new (ci := 3) (fs := [.int 0, .int 0, .int 0, .null]) (C := RJx35411) (T := TJx35411) (N := 4) hx hb hts inJx35411 tyJx35411 tyJx35411_ok hown (hts _ q1526) (hts _ q1527) (hts _ q70) hK hP hD hS hA rfl (fun j hj => by rcases (show j = 0 ∨ j = 1 ∨ j = 2 ∨ j = 3 by omega) with rfl | rfl | rfl | rfl <;> rfl) (Nat.le_of_ble_eq_true rfl) (Nat.le_of_ble_eq_true rfl) dJx4a65c_iterator_32c93_0 (fun q_17 H hP hD hS => ?_)
  have hP : va_P (dC, dI) vwCl [(a, .inr (4, [.int m0, w1, w2])), (q_17, .inr (3, [.int 0, .int 0, .int 0, .null]))] H := hP
  have hD : va_D A [(a, .inr (4, [.int m0, w1, w2])), (q_17, .inr (3, [.int 0, .int 0, .int 0, .null]))] := hD
  refine W.widen (k := 1) (n := 4) (Nat.le_of_ble_eq_true rfl) (Nat.le_of_ble_eq_true rfl) ?_
  refine lv_dup hx hb dJx4a65c_iterator_32c93_3 rfl ?_
  refine lv_aload_n hx hb dJx4a65c_iterator_32c93_4 rfl (lv_at hl 0 rfl) ?_
  have hPc := hP.sub (ws' := [(q_17, .inr (3, [.int 0, .int 0, .int 0, .null])), (a, .inr (4, [.int m0, w1, w2]))]) [1, 0] rfl
  have hDc := hD.sub (ws' := [(q_17, .inr (3, [.int 0, .int 0, .int 0, .null])), (a, .inr (4, [.int m0, w1, w2]))]) [1, 0] (by decide) rfl
  have hKc := hK.sub (tys' := []) [] rfl
  have hFc := va_free (wc := [(q_17, .inr (3, [.int 0, .int 0, .int 0, .null])), (a, .inr (4, [.int m0, w1, w2]))]) hD hS hA [1, 0] rfl
  refine va_callv (va_runI (As := [.ref a]) (rest := [.ref q_17]) ⟨hx, hb, hml, hown, hts⟩ (m_itrInit l dC dI H.size q_17 a .null m0 w1 w2) (cwI 1 hts (pw_c q1530) rfl rfl rfl (hts _ q70) (hts _ q1528) (hts _ q1529) rfl (by decide +kernel) ⟨(Nat.le_of_ble_eq_true rfl), (Nat.le_of_ble_eq_true rfl)⟩) ⟨fun a U g mk q => by obtain ⟨q0, q1, qP, qK, qD⟩ := q; exact ⟨q0, q1, qP, va_K.moved (u := U) (U := U.calling g mk a) (Vm.Alike.refl U.vm) qK, qD⟩, fun U hU hW => ⟨rfl, by rw [hU], by rw [hU]; exact hPc, va_K.moved hW.alike hKc, hDc.weaken (fun _ _ _ _ => trivial)⟩⟩ rfl rfl hl.1 rfl (lv_room (Nat.le_of_ble_eq_true rfl)) dJx4a65c_iterator_32c93_5 ⟨(Nat.le_of_ble_eq_true rfl), (Nat.le_of_ble_eq_true rfl)⟩) hS (fun q _ h => hFc q h) hFc (fun u t H1 locs ht hvm hw hB hz1 hk1 hS => ?_)
  obtain ⟨hP1, hK1, hD1⟩ := hB
  rw [ht] at hP1
  have hK1 := va_K.moved hvm.symm hK1
  obtain ⟨hP, hD⟩ := va_join (wr := []) (w1 := [(q_17, .inr (3, [.int 0, .int (-1), .int m0, .ref a])), (a, .inr (4, [.int m0, w1, w2]))]) hP hD [1, 0] [] rfl rfl (by decide) (by decide) hk1 hFc hP1 hD1
  have hK := (hK.sub (tys' := []) [] rfl).app hK1
  generalize H1 = H at hP hS ⊢
  have hP : va_P (dC, dI) vwCl [(q_17, .inr (3, [.int 0, .int (-1), .int m0, .ref a])), (a, .inr (4, [.int m0, w1, w2]))] H := hP
  have hD : va_D A [(q_17, .inr (3, [.int 0, .int (-1), .int m0, .ref a])), (a, .inr (4, [.int m0, w1, w2]))] := hD
  have hK : va_K (dC, dI) vwCl [] s := hK
  refine W.widen (k := 1) (n := 4) (Nat.le_of_ble_eq_true rfl) (Nat.le_of_ble_eq_true rfl) ?_
  have hP9 := hP.sub (ws' := [(q_17, .inr (3, [.int 0, .int (-1), .int m0, .ref a])), (a, .inr (4, [.int m0, w1, w2]))]) [0, 1] rfl
  have hD9 := hD.sub (ws' := [(q_17, .inr (3, [.int 0, .int (-1), .int m0, .ref a])), (a, .inr (4, [.int m0, w1, w2]))]) [0, 1] (by decide) rfl
  have hK9 := hK.sub (tys' := []) [] rfl
  refine W.widen (k := 1) (n := 4) (Nat.le_of_ble_eq_true rfl) (Nat.le_of_ble_eq_true rfl) ?_
  exact W.aret (v := .ref q_17) hx hb hr (by first | exact Or.inl ⟨_, rfl⟩ | exact Or.inr ⟨_, rfl⟩) (Or.inr ⟨_, rfl⟩) (fun t ht hW => ⟨⟨(), q_17, rfl, trivial, ⟨by rw [ht]; exact hP9, va_K.moved hW.alike hK9, hD9⟩⟩, hS.F ht⟩) hS.2.2 dJx4a65c_iterator_32c93_8
set_option maxHeartbeats 4000000 in
set_option maxRecDepth 100000 in
theorem m_hasNext (l : Launch) (dC : Nat → ClassId) (dI : Nat → Nat → Nat) (sz : Nat) (ed : Nat) (q : Nat) (a : Nat) (u1 : Value) (u2 : Value) (w1 : Value) (w2 : Value) : Met l yJx35411_hasNext_aae02 (pw_ws yJx35411_hasNext_aae02 cJx35411_hasNext_aae02 1 (some .boolean)) ({ frames := 1, cells := 0, slots := 0, locals := 20 } : Room) (va_Pc [.ref q] (fun U => U.heap.size = sz ∧ va_P (dC, dI) vwCl [(q, .inr (3, [.int 0, u1, u2, .ref a])), (a, .inr (4, [w1, w2, .int 0]))] U.heap ∧ va_K (dC, dI) vwCl [] U ∧ va_D (fun _ => True) [(q, .inr (3, [.int 0, u1, u2, .ref a])), (a, .inr (4, [w1, w2, .int 0]))] ∧ pz ed (va_A [(q, .inr (3, [.int 0, u1, u2, .ref a])), (a, .inr (4, [w1, w2, .int 0]))] sz) U U.heap)) (va_Qi (fun (r : Int32) (_ : Unit) => r = 0) (fun (_ : Unit) (t : State) => va_P (dC, dI) vwCl [(q, .inr (3, [.int 0, u1, u2, .ref a])), (a, .inr (4, [w1, w2, .int 0]))] t.heap ∧ va_K (dC, dI) vwCl [] t ∧ va_D (va_A [(q, .inr (3, [.int 0, u1, u2, .ref a])), (a, .inr (4, [w1, w2, .int 0]))] sz) [(q, .inr (3, [.int 0, u1, u2, .ref a])), (a, .inr (4, [w1, w2, .int 0]))]) (va_A [(q, .inr (3, [.int 0, u1, u2, .ref a])), (a, .inr (4, [w1, w2, .int 0]))] sz)) 0 0 (va_A [(q, .inr (3, [.int 0, u1, u2, .ref a])), (a, .inr (4, [w1, w2, .int 0]))] sz) := by
  refine Met.ofW (cc := cJx35411_hasNext_aae02) (maxL := 1) (ret := (some .boolean)) (by decide) rfl ?_
  intro p e s m args below meth c s₁ B hml hv
  obtain ⟨rfl, hsz, hP, hK, hD0, hZ⟩ := hv
  have hx := B.exec
  have hb := B.bytes
  have hr := B.returns
  have hts0 := atoms_spec (ws := (pw_ws yJx35411_hasNext_aae02 cJx35411_hasNext_aae02 1 (some .boolean))) B.pre
  have hts : ∀ w ∈ pw_all, w.before _ s = true := fun w h => hts0 w (List.mem_cons_of_mem _ h)
  have hown : s.vm.findClass RJx35411 = some m.cls := findClass_of_methodNamed B.named
  have hlocks := B.notSynchronized
  subst hsz
  have hD := hD0.self (sz := s.heap.size)
  generalize hAe : va_A [(q, .inr (3, [.int 0, u1, u2, .ref a])), (a, .inr (4, [w1, w2, .int 0]))] s.heap.size = A at hD hZ ⊢
  have hA : ∀ q : Nat, s.heap.size ≤ q → A q := fun q h => by rw [← hAe]; exact Or.inr h
  have hS : va_S A s.heap s.heap [] := va_S.rf
  have hP : va_P (dC, dI) vwCl [(q, .inr (3, [.int 0, u1, u2, .ref a])), (a, .inr (4, [w1, w2, .int 0]))] s.heap := hP
  have hl := lv_entry ([.ref q]) (n := 1) (Nat.le_of_ble_eq_true rfl)
  rw [lg_entry_eq]
  generalize (lg_sl ([.ref q]) ++ List.replicate (1 - (lg_sl ([.ref q])).length) Slot.unset).toArray = ls at hl ⊢
  have hl : lv_has ls 1 [(0, .ref q)] := hl
  skip
  refine lv_aload_n hx hb dJx35411_hasNext_aae02_0 rfl (lv_at hl 0 rfl) ?_
  refine va_get (D := (dC, dI)) (ci := 3) (v := .int 0) (C := RJx35411) (T := TJx35411) (N := 4) hx hb hts inJx35411 hown hK hP 0 rfl rfl 0 (by decide) (hts _ q1532) (fun _ h9 => h9) rfl dJx35411_hasNext_aae02_1 ?_
  refine lv_aload_n hx hb dJx35411_hasNext_aae02_4 rfl (lv_at hl 0 rfl) ?_
  refine va_get (D := (dC, dI)) (ci := 3) (v := .ref a) (C := RJx35411) (T := TJx35411) (N := 4) hx hb hts inJx35411 hown hK hP 0 rfl rfl 3 (by decide) (hts _ q1535) (fun _ h9 => h9) rfl dJx35411_hasNext_aae02_5 ?_
  refine va_getN (D := (dC, dI)) (ci := 4) (v := .int 0) (C := RJx4a65c) (T := TJx4a65c) (N := 3) hx hb hts inJx4a65c hown hK hP 1 rfl rfl 2 (by decide) (va_Nw.use rfl hZ.nestF) (fun _ h9 => h9) rfl dJx35411_hasNext_aae02_8 ?_
  refine lv_icmp_eq (tgt := 18) hx hb dJx35411_hasNext_aae02_11 (by decide) (fun c_19 => ?_) (fun c_19 => absurd (by decide) c_19)
  refine lv_iconst (v := 0) hx hb dJx35411_hasNext_aae02_18 (by decide) ?_
  have hP9 := hP.sub (ws' := [(q, .inr (3, [.int 0, u1, u2, .ref a])), (a, .inr (4, [w1, w2, .int 0]))]) [0, 1] rfl
  have hD9 := hD.sub (ws' := [(q, .inr (3, [.int 0, u1, u2, .ref a])), (a, .inr (4, [w1, w2, .int 0]))]) [0, 1] (by decide) rfl
  have hK9 := hK.sub (tys' := []) [] rfl
  refine W.widen (k := 0) (n := 0) (Nat.le_of_ble_eq_true rfl) (Nat.le_of_ble_eq_true rfl) ?_
  exact W.zret (v := 0) hx hb hr (by decide) (fun t ht hW => ⟨⟨0, (), rfl, rfl, ⟨by rw [ht]; exact hP9, va_K.moved hW.alike hK9, hD9⟩⟩, hS.F ht⟩) hS.2.2 dJx35411_hasNext_aae02_19
