set_option maxHeartbeats 4000000 in
set_option maxRecDepth 100000 in
theorem m_structureAt (l : Launch) (hl9 : l.stackTraces = false) (dC : Nat → ClassId) (dI : Nat → Nat → Nat) (sz : Nat) (ed : Nat) (h0 : Nat) (a : Nat) (v1 : Value) (v2 : Value) (v3 : Value) (v4 : Value) (v5 : Value) (v6 : Value) (v7 : Value) (w0 : Value) (w1 : Value) (p0 : Int32) : vx_Met l yX6_structureAt (pw_ws yX6_structureAt cX6_structureAt 2 (some (.object "Shakerhall$Structure"))) ({ frames := 6, cells := 1, slots := 6, locals := 100 } : Room) (va_Pc [.ref h0, .int p0] (fun U => U.heap.size = sz ∧ va_P (dC, dI) vwCl [(h0, .inr (11, [.ref a, v1, v2, v3, v4, v5, v6, v7])), (a, .inr (4, [w0, w1, .int 0]))] U.heap ∧ va_K (dC, dI) vwCl [] U ∧ va_D (fun _ => True) [(h0, .inr (11, [.ref a, v1, v2, v3, v4, v5, v6, v7])), (a, .inr (4, [w0, w1, .int 0]))] ∧ pz ed (va_A [(h0, .inr (11, [.ref a, v1, v2, v3, v4, v5, v6, v7])), (a, .inr (4, [w0, w1, .int 0]))] sz) U U.heap)) (va_Qr (fun (_ : Unit) => False) (fun (_ : Unit) (_ : Nat) (_ : State) => True) (va_A [(h0, .inr (11, [.ref a, v1, v2, v3, v4, v5, v6, v7])), (a, .inr (4, [w0, w1, .int 0]))] sz)) (vx_X px_T (fun (E : String) (_ : Unit) (t : State) => E = "java/lang/IndexOutOfBoundsException" ∧ va_P (dC, dI) vwCl [(h0, .inr (11, [.ref a, v1, v2, v3, v4, v5, v6, v7])), (a, .inr (4, [w0, w1, .int 0]))] t.heap ∧ va_K (dC, dI) vwCl [] t ∧ va_D (va_A [(h0, .inr (11, [.ref a, v1, v2, v3, v4, v5, v6, v7])), (a, .inr (4, [w0, w1, .int 0]))] sz) [(h0, .inr (11, [.ref a, v1, v2, v3, v4, v5, v6, v7])), (a, .inr (4, [w0, w1, .int 0]))]) (va_A [(h0, .inr (11, [.ref a, v1, v2, v3, v4, v5, v6, v7])), (a, .inr (4, [w0, w1, .int 0]))] sz)) 1 6 (va_A [(h0, .inr (11, [.ref a, v1, v2, v3, v4, v5, v6, v7])), (a, .inr (4, [w0, w1, .int 0]))] sz) := by
  refine vx_ofW (cc := cX6_structureAt) (maxL := 2) (ret := (some (.object "Shakerhall$Structure"))) (by decide) rfl ?_
  intro p e s m args below meth c s₁ B hml htab hv
  obtain ⟨rfl, hsz, hP, hK, hD0, hZ⟩ := hv
  have hx := B.exec
  have hb := B.bytes
  have hr := B.returns
  have hts0 := atoms_spec (ws := (pw_ws yX6_structureAt cX6_structureAt 2 (some (.object "Shakerhall$Structure")))) B.pre
  have hts : ∀ w ∈ pw_all, w.before _ s = true := fun w h => hts0 w (List.mem_cons_of_mem _ h)
  have hown : s.vm.findClass RX6 = some m.cls := findClass_of_methodNamed B.named
  have hlocks := B.notSynchronized
  subst hsz
  have hD := hD0.self (sz := s.heap.size)
  generalize hAe : va_A [(h0, .inr (11, [.ref a, v1, v2, v3, v4, v5, v6, v7])), (a, .inr (4, [w0, w1, .int 0]))] s.heap.size = A at hD hZ ⊢
  have hA : ∀ q : Nat, s.heap.size ≤ q → A q := fun q h => by rw [← hAe]; exact Or.inr h
  have hS : va_S A s.heap s.heap [] := va_S.rf
  have hP : va_P (dC, dI) vwCl [(h0, .inr (11, [.ref a, v1, v2, v3, v4, v5, v6, v7])), (a, .inr (4, [w0, w1, .int 0]))] s.heap := hP
  have hl := lv_entry ([.ref h0, .int p0]) (n := 2) (Nat.le_of_ble_eq_true rfl)
  rw [lg_entry_eq]
  generalize (lg_sl ([.ref h0, .int p0]) ++ List.replicate (2 - (lg_sl ([.ref h0, .int p0])).length) Slot.unset).toArray = ls at hl ⊢
  have hl : lv_has ls 2 [(0, .ref h0), (1, .int p0)] := hl
  skip
  refine lv_iload_n hx hb dX6_structureAt_0 rfl (lv_at hl 1 rfl) ?_
  refine lv_if_lt (tgt := 15) hx hb dX6_structureAt_1 (by decide) (fun c_88 => ?_) (fun c_88 => ?_)
  · skip
    have hP9 := hP.sub (ws' := [(h0, .inr (11, [.ref a, v1, v2, v3, v4, v5, v6, v7])), (a, .inr (4, [w0, w1, .int 0]))]) [0, 1] rfl
    have hD9 := hD.sub (ws' := [(h0, .inr (11, [.ref a, v1, v2, v3, v4, v5, v6, v7])), (a, .inr (4, [w0, w1, .int 0]))]) [0, 1] (by decide) rfl
    have hK9 := hK.sub (tys' := []) [] rfl
    obtain ⟨sa, hstr⟩ := hZ.str (own := "Shakerhall") (k := 390) (tx := "no such structure") (by decide)
    exact vx_throwSW (own := RX6) (cls := "java/lang/IndexOutOfBoundsException") (names := ["java/lang/RuntimeException", "java/lang/Exception"]) hx hb hl9 hown (by decide +kernel) (by decide +kernel) (hts _ q512) (hts _ q60) hstr (vx_hat (L := vx_atS RX6 392 "java/lang/IndexOutOfBoundsException" ["java/lang/RuntimeException", "java/lang/Exception"]) (B := [.castable "java/lang/IndexOutOfBoundsException" "java/lang/IndexOutOfBoundsException", .declares ⟨"java/lang/RuntimeException", "<init>", "(Ljava/lang/String;)V"⟩, .declares ⟨"java/lang/Exception", "<init>", "(Ljava/lang/String;)V"⟩, .declares ⟨"java/lang/Throwable", "<init>", "(Ljava/lang/String;)V"⟩]) (fun w hw => hts w (at_RX6_392 w hw)) (by decide +kernel) (vx_c (hZ.cast (by decide)) (vx_c (hZ.decl (by decide)) (vx_c (hZ.decl (by decide)) (vx_c (hZ.decl (by decide)) vx_n))))) (by decide +kernel) hZ.1 hZ.2.1 hS (hl.1.trans hml.symm) dX6_structureAt_15 dX6_structureAt_18 dX6_structureAt_19 dX6_structureAt_22 dX6_structureAt_25 (fun x hx => (htab x hx).elim) (Nat.le_of_ble_eq_true rfl) (Nat.le_of_ble_eq_true rfl) (Nat.le_of_ble_eq_true rfl) (Nat.le_of_ble_eq_true rfl) hlocks (fun t ha hsz hk => ⟨(), trivial, ⟨rfl, hP9.kept (fun k q hq => hk q.1 (hP9 k q hq).lt), va_K.moved ha hK9, hD9⟩, Nat.le_trans hS.1 hsz, fun q h1 h2 => (hk q (Nat.lt_of_lt_of_le h1 hS.1)).trans (hS.2.1 q h1 h2)⟩) hS.2.2 (Nat.le_of_ble_eq_true rfl) (Nat.le_of_ble_eq_true rfl)
  · skip
    refine lv_iload_n hx hb dX6_structureAt_4 rfl (lv_at hl 1 rfl) ?_
    refine lv_aload_n hx hb dX6_structureAt_5 rfl (lv_at hl 0 rfl) ?_
    refine va_get (D := (dC, dI)) (ci := 11) (v := .ref a) (C := RX6) (T := TX6) (N := 8) hx hb hts inX6 hown hK hP 0 rfl rfl 0 (by decide) (hts _ q193) (fun _ h9 => h9) rfl dX6_structureAt_6 ?_
    have hPc := hP.sub (ws' := [(a, .inr (4, [w0, w1, .int 0]))]) [1] rfl
    have hDc := hD.sub (ws' := [(a, .inr (4, [w0, w1, .int 0]))]) [1] (by decide) rfl
    have hKc := hK.sub (tys' := []) [] rfl
    have hFc := va_free (wc := [(a, .inr (4, [w0, w1, .int 0]))]) hD hS hA [1] rfl
    refine va_calli (va_runV (As := []) (rest := [.int p0]) ⟨hx, hb, hml, hown, hts⟩ (m_size l dC dI s.heap.size a w0 w1 0) (cwV 0 hts (pw_V q273 q274 q275 q46 q276) rfl rfl rfl (by decide +kernel) ⟨(Nat.le_of_ble_eq_true rfl), (Nat.le_of_ble_eq_true rfl)⟩) ⟨fun a U g mk q => by obtain ⟨q0, q1, qP, qK, qD⟩ := q; exact ⟨q0, q1, qP, va_K.moved (u := U) (U := U.calling g mk a) (Vm.Alike.refl U.vm) qK, qD⟩, va_recv hKc hPc (ci := 4) (q0 := 0) rfl rfl, fun U hU hW => ⟨rfl, by rw [hU], by rw [hU]; exact hPc, va_K.moved hW.alike hKc, hDc.weaken (fun _ _ _ _ => trivial)⟩⟩ rfl rfl hl.1 rfl (lv_room (Nat.le_of_ble_eq_true rfl)) dX6_structureAt_9 ⟨(Nat.le_of_ble_eq_true rfl), (Nat.le_of_ble_eq_true rfl)⟩) hS (fun q _ h => hFc q h) hFc (fun r_89 u t H1 locs ht hvm hw hB hz1 hk1 hS => ?_)
    obtain ⟨hP1, hK1, hD1⟩ := hB
    rw [ht] at hP1
    have hK1 := va_K.moved hvm.symm hK1
    obtain ⟨hP, hD⟩ := va_join (wr := [(h0, .inr (11, [.ref a, v1, v2, v3, v4, v5, v6, v7]))]) (w1 := [(a, .inr (4, [w0, w1, .int 0]))]) hP hD [1] [0] rfl rfl (by decide) (by decide) hk1 hFc hP1 hD1
    have hK := (hK.sub (tys' := []) [] rfl).app hK1
    generalize H1 = H at hP hS ⊢
    have hP : va_P (dC, dI) vwCl [(h0, .inr (11, [.ref a, v1, v2, v3, v4, v5, v6, v7])), (a, .inr (4, [w0, w1, .int 0]))] H := hP
    have hD : va_D A [(h0, .inr (11, [.ref a, v1, v2, v3, v4, v5, v6, v7])), (a, .inr (4, [w0, w1, .int 0]))] := hD
    have hK : va_K (dC, dI) vwCl [] s := hK
    refine W.widen (k := 0) (n := 0) (Nat.le_of_ble_eq_true rfl) (Nat.le_of_ble_eq_true rfl) ?_
    have hw : r_89 = 0 := hw
    subst hw
    refine lv_icmp_lt (tgt := 26) hx hb dX6_structureAt_12 (by decide) (fun c_90 => absurd c_90 c_88) (fun c_90 => ?_)
    have hP9 := hP.sub (ws' := [(h0, .inr (11, [.ref a, v1, v2, v3, v4, v5, v6, v7])), (a, .inr (4, [w0, w1, .int 0]))]) [0, 1] rfl
    have hD9 := hD.sub (ws' := [(h0, .inr (11, [.ref a, v1, v2, v3, v4, v5, v6, v7])), (a, .inr (4, [w0, w1, .int 0]))]) [0, 1] (by decide) rfl
    have hK9 := hK.sub (tys' := []) [] rfl
    obtain ⟨sa, hstr⟩ := hZ.str (own := "Shakerhall") (k := 390) (tx := "no such structure") (by decide)
    exact vx_throwSW (own := RX6) (cls := "java/lang/IndexOutOfBoundsException") (names := ["java/lang/RuntimeException", "java/lang/Exception"]) hx hb hl9 hown (by decide +kernel) (by decide +kernel) (hts _ q512) (hts _ q60) hstr (vx_hat (L := vx_atS RX6 392 "java/lang/IndexOutOfBoundsException" ["java/lang/RuntimeException", "java/lang/Exception"]) (B := [.castable "java/lang/IndexOutOfBoundsException" "java/lang/IndexOutOfBoundsException", .declares ⟨"java/lang/RuntimeException", "<init>", "(Ljava/lang/String;)V"⟩, .declares ⟨"java/lang/Exception", "<init>", "(Ljava/lang/String;)V"⟩, .declares ⟨"java/lang/Throwable", "<init>", "(Ljava/lang/String;)V"⟩]) (fun w hw => hts w (at_RX6_392 w hw)) (by decide +kernel) (vx_c (hZ.cast (by decide)) (vx_c (hZ.decl (by decide)) (vx_c (hZ.decl (by decide)) (vx_c (hZ.decl (by decide)) vx_n))))) (by decide +kernel) hZ.1 hZ.2.1 hS (hl.1.trans hml.symm) dX6_structureAt_15 dX6_structureAt_18 dX6_structureAt_19 dX6_structureAt_22 dX6_structureAt_25 (fun x hx => (htab x hx).elim) (Nat.le_of_ble_eq_true rfl) (Nat.le_of_ble_eq_true rfl) (Nat.le_of_ble_eq_true rfl) (Nat.le_of_ble_eq_true rfl) hlocks (fun t ha hsz hk => ⟨(), trivial, ⟨rfl, hP9.kept (fun k q hq => hk q.1 (hP9 k q hq).lt), va_K.moved ha hK9, hD9⟩, Nat.le_trans hS.1 hsz, fun q h1 h2 => (hk q (Nat.lt_of_lt_of_le h1 hS.1)).trans (hS.2.1 q h1 h2)⟩) hS.2.2 (Nat.le_of_ble_eq_true rfl) (Nat.le_of_ble_eq_true rfl)
set_option maxHeartbeats 4000000 in
set_option maxRecDepth 100000 in
theorem m_sensorAt (l : Launch) (hl9 : l.stackTraces = false) (dC : Nat → ClassId) (dI : Nat → Nat → Nat) (sz : Nat) (ed : Nat) (h0 : Nat) (a : Nat) (v0 : Value) (v2 : Value) (v3 : Value) (v4 : Value) (v5 : Value) (v6 : Value) (v7 : Value) (w0 : Value) (w1 : Value) (p0 : Int32) : vx_Met l yX6_sensorAt (pw_ws yX6_sensorAt cX6_sensorAt 2 (some (.object "Shakerhall$Sensor"))) ({ frames := 6, cells := 1, slots := 6, locals := 100 } : Room) (va_Pc [.ref h0, .int p0] (fun U => U.heap.size = sz ∧ va_P (dC, dI) vwCl [(h0, .inr (11, [v0, .ref a, v2, v3, v4, v5, v6, v7])), (a, .inr (4, [w0, w1, .int 0]))] U.heap ∧ va_K (dC, dI) vwCl [] U ∧ va_D (fun _ => True) [(h0, .inr (11, [v0, .ref a, v2, v3, v4, v5, v6, v7])), (a, .inr (4, [w0, w1, .int 0]))] ∧ pz ed (va_A [(h0, .inr (11, [v0, .ref a, v2, v3, v4, v5, v6, v7])), (a, .inr (4, [w0, w1, .int 0]))] sz) U U.heap)) (va_Qr (fun (_ : Unit) => False) (fun (_ : Unit) (_ : Nat) (_ : State) => True) (va_A [(h0, .inr (11, [v0, .ref a, v2, v3, v4, v5, v6, v7])), (a, .inr (4, [w0, w1, .int 0]))] sz)) (vx_X px_T (fun (E : String) (_ : Unit) (t : State) => E = "java/lang/IndexOutOfBoundsException" ∧ va_P (dC, dI) vwCl [(h0, .inr (11, [v0, .ref a, v2, v3, v4, v5, v6, v7])), (a, .inr (4, [w0, w1, .int 0]))] t.heap ∧ va_K (dC, dI) vwCl [] t ∧ va_D (va_A [(h0, .inr (11, [v0, .ref a, v2, v3, v4, v5, v6, v7])), (a, .inr (4, [w0, w1, .int 0]))] sz) [(h0, .inr (11, [v0, .ref a, v2, v3, v4, v5, v6, v7])), (a, .inr (4, [w0, w1, .int 0]))]) (va_A [(h0, .inr (11, [v0, .ref a, v2, v3, v4, v5, v6, v7])), (a, .inr (4, [w0, w1, .int 0]))] sz)) 1 6 (va_A [(h0, .inr (11, [v0, .ref a, v2, v3, v4, v5, v6, v7])), (a, .inr (4, [w0, w1, .int 0]))] sz) := by
  refine vx_ofW (cc := cX6_sensorAt) (maxL := 2) (ret := (some (.object "Shakerhall$Sensor"))) (by decide) rfl ?_
  intro p e s m args below meth c s₁ B hml htab hv
  obtain ⟨rfl, hsz, hP, hK, hD0, hZ⟩ := hv
  have hx := B.exec
  have hb := B.bytes
  have hr := B.returns
  have hts0 := atoms_spec (ws := (pw_ws yX6_sensorAt cX6_sensorAt 2 (some (.object "Shakerhall$Sensor")))) B.pre
  have hts : ∀ w ∈ pw_all, w.before _ s = true := fun w h => hts0 w (List.mem_cons_of_mem _ h)
  have hown : s.vm.findClass RX6 = some m.cls := findClass_of_methodNamed B.named
  have hlocks := B.notSynchronized
  subst hsz
  have hD := hD0.self (sz := s.heap.size)
  generalize hAe : va_A [(h0, .inr (11, [v0, .ref a, v2, v3, v4, v5, v6, v7])), (a, .inr (4, [w0, w1, .int 0]))] s.heap.size = A at hD hZ ⊢
  have hA : ∀ q : Nat, s.heap.size ≤ q → A q := fun q h => by rw [← hAe]; exact Or.inr h
  have hS : va_S A s.heap s.heap [] := va_S.rf
  have hP : va_P (dC, dI) vwCl [(h0, .inr (11, [v0, .ref a, v2, v3, v4, v5, v6, v7])), (a, .inr (4, [w0, w1, .int 0]))] s.heap := hP
  have hl := lv_entry ([.ref h0, .int p0]) (n := 2) (Nat.le_of_ble_eq_true rfl)
  rw [lg_entry_eq]
  generalize (lg_sl ([.ref h0, .int p0]) ++ List.replicate (2 - (lg_sl ([.ref h0, .int p0])).length) Slot.unset).toArray = ls at hl ⊢
  have hl : lv_has ls 2 [(0, .ref h0), (1, .int p0)] := hl
  skip
  refine lv_iload_n hx hb dX6_sensorAt_0 rfl (lv_at hl 1 rfl) ?_
  refine lv_if_lt (tgt := 15) hx hb dX6_sensorAt_1 (by decide) (fun c_91 => ?_) (fun c_91 => ?_)
  · skip
    have hP9 := hP.sub (ws' := [(h0, .inr (11, [v0, .ref a, v2, v3, v4, v5, v6, v7])), (a, .inr (4, [w0, w1, .int 0]))]) [0, 1] rfl
    have hD9 := hD.sub (ws' := [(h0, .inr (11, [v0, .ref a, v2, v3, v4, v5, v6, v7])), (a, .inr (4, [w0, w1, .int 0]))]) [0, 1] (by decide) rfl
    have hK9 := hK.sub (tys' := []) [] rfl
    obtain ⟨sa, hstr⟩ := hZ.str (own := "Shakerhall") (k := 393) (tx := "no such sensor") (by decide)
    exact vx_throwSW (own := RX6) (cls := "java/lang/IndexOutOfBoundsException") (names := ["java/lang/RuntimeException", "java/lang/Exception"]) hx hb hl9 hown (by decide +kernel) (by decide +kernel) (hts _ q512) (hts _ q60) hstr (vx_hat (L := vx_atS RX6 392 "java/lang/IndexOutOfBoundsException" ["java/lang/RuntimeException", "java/lang/Exception"]) (B := [.castable "java/lang/IndexOutOfBoundsException" "java/lang/IndexOutOfBoundsException", .declares ⟨"java/lang/RuntimeException", "<init>", "(Ljava/lang/String;)V"⟩, .declares ⟨"java/lang/Exception", "<init>", "(Ljava/lang/String;)V"⟩, .declares ⟨"java/lang/Throwable", "<init>", "(Ljava/lang/String;)V"⟩]) (fun w hw => hts w (at_RX6_392 w hw)) (by decide +kernel) (vx_c (hZ.cast (by decide)) (vx_c (hZ.decl (by decide)) (vx_c (hZ.decl (by decide)) (vx_c (hZ.decl (by decide)) vx_n))))) (by decide +kernel) hZ.1 hZ.2.1 hS (hl.1.trans hml.symm) dX6_sensorAt_15 dX6_sensorAt_18 dX6_sensorAt_19 dX6_sensorAt_22 dX6_sensorAt_25 (fun x hx => (htab x hx).elim) (Nat.le_of_ble_eq_true rfl) (Nat.le_of_ble_eq_true rfl) (Nat.le_of_ble_eq_true rfl) (Nat.le_of_ble_eq_true rfl) hlocks (fun t ha hsz hk => ⟨(), trivial, ⟨rfl, hP9.kept (fun k q hq => hk q.1 (hP9 k q hq).lt), va_K.moved ha hK9, hD9⟩, Nat.le_trans hS.1 hsz, fun q h1 h2 => (hk q (Nat.lt_of_lt_of_le h1 hS.1)).trans (hS.2.1 q h1 h2)⟩) hS.2.2 (Nat.le_of_ble_eq_true rfl) (Nat.le_of_ble_eq_true rfl)
  · skip
    refine lv_iload_n hx hb dX6_sensorAt_4 rfl (lv_at hl 1 rfl) ?_
    refine lv_aload_n hx hb dX6_sensorAt_5 rfl (lv_at hl 0 rfl) ?_
    refine va_get (D := (dC, dI)) (ci := 11) (v := .ref a) (C := RX6) (T := TX6) (N := 8) hx hb hts inX6 hown hK hP 0 rfl rfl 1 (by decide) (hts _ q194) (fun _ h9 => h9) rfl dX6_sensorAt_6 ?_
    have hPc := hP.sub (ws' := [(a, .inr (4, [w0, w1, .int 0]))]) [1] rfl
    have hDc := hD.sub (ws' := [(a, .inr (4, [w0, w1, .int 0]))]) [1] (by decide) rfl
    have hKc := hK.sub (tys' := []) [] rfl
    have hFc := va_free (wc := [(a, .inr (4, [w0, w1, .int 0]))]) hD hS hA [1] rfl
    refine va_calli (va_runV (As := []) (rest := [.int p0]) ⟨hx, hb, hml, hown, hts⟩ (m_size l dC dI s.heap.size a w0 w1 0) (cwV 0 hts (pw_V q273 q274 q275 q46 q276) rfl rfl rfl (by decide +kernel) ⟨(Nat.le_of_ble_eq_true rfl), (Nat.le_of_ble_eq_true rfl)⟩) ⟨fun a U g mk q => by obtain ⟨q0, q1, qP, qK, qD⟩ := q; exact ⟨q0, q1, qP, va_K.moved (u := U) (U := U.calling g mk a) (Vm.Alike.refl U.vm) qK, qD⟩, va_recv hKc hPc (ci := 4) (q0 := 0) rfl rfl, fun U hU hW => ⟨rfl, by rw [hU], by rw [hU]; exact hPc, va_K.moved hW.alike hKc, hDc.weaken (fun _ _ _ _ => trivial)⟩⟩ rfl rfl hl.1 rfl (lv_room (Nat.le_of_ble_eq_true rfl)) dX6_sensorAt_9 ⟨(Nat.le_of_ble_eq_true rfl), (Nat.le_of_ble_eq_true rfl)⟩) hS (fun q _ h => hFc q h) hFc (fun r_92 u t H1 locs ht hvm hw hB hz1 hk1 hS => ?_)
    obtain ⟨hP1, hK1, hD1⟩ := hB
    rw [ht] at hP1
    have hK1 := va_K.moved hvm.symm hK1
    obtain ⟨hP, hD⟩ := va_join (wr := [(h0, .inr (11, [v0, .ref a, v2, v3, v4, v5, v6, v7]))]) (w1 := [(a, .inr (4, [w0, w1, .int 0]))]) hP hD [1] [0] rfl rfl (by decide) (by decide) hk1 hFc hP1 hD1
    have hK := (hK.sub (tys' := []) [] rfl).app hK1
    generalize H1 = H at hP hS ⊢
    have hP : va_P (dC, dI) vwCl [(h0, .inr (11, [v0, .ref a, v2, v3, v4, v5, v6, v7])), (a, .inr (4, [w0, w1, .int 0]))] H := hP
    have hD : va_D A [(h0, .inr (11, [v0, .ref a, v2, v3, v4, v5, v6, v7])), (a, .inr (4, [w0, w1, .int 0]))] := hD
    have hK : va_K (dC, dI) vwCl [] s := hK
    refine W.widen (k := 0) (n := 0) (Nat.le_of_ble_eq_true rfl) (Nat.le_of_ble_eq_true rfl) ?_
    have hw : r_92 = 0 := hw
    subst hw
    refine lv_icmp_lt (tgt := 26) hx hb dX6_sensorAt_12 (by decide) (fun c_93 => absurd c_93 c_91) (fun c_93 => ?_)
    have hP9 := hP.sub (ws' := [(h0, .inr (11, [v0, .ref a, v2, v3, v4, v5, v6, v7])), (a, .inr (4, [w0, w1, .int 0]))]) [0, 1] rfl
    have hD9 := hD.sub (ws' := [(h0, .inr (11, [v0, .ref a, v2, v3, v4, v5, v6, v7])), (a, .inr (4, [w0, w1, .int 0]))]) [0, 1] (by decide) rfl
    have hK9 := hK.sub (tys' := []) [] rfl
    obtain ⟨sa, hstr⟩ := hZ.str (own := "Shakerhall") (k := 393) (tx := "no such sensor") (by decide)
    exact vx_throwSW (own := RX6) (cls := "java/lang/IndexOutOfBoundsException") (names := ["java/lang/RuntimeException", "java/lang/Exception"]) hx hb hl9 hown (by decide +kernel) (by decide +kernel) (hts _ q512) (hts _ q60) hstr (vx_hat (L := vx_atS RX6 392 "java/lang/IndexOutOfBoundsException" ["java/lang/RuntimeException", "java/lang/Exception"]) (B := [.castable "java/lang/IndexOutOfBoundsException" "java/lang/IndexOutOfBoundsException", .declares ⟨"java/lang/RuntimeException", "<init>", "(Ljava/lang/String;)V"⟩, .declares ⟨"java/lang/Exception", "<init>", "(Ljava/lang/String;)V"⟩, .declares ⟨"java/lang/Throwable", "<init>", "(Ljava/lang/String;)V"⟩]) (fun w hw => hts w (at_RX6_392 w hw)) (by decide +kernel) (vx_c (hZ.cast (by decide)) (vx_c (hZ.decl (by decide)) (vx_c (hZ.decl (by decide)) (vx_c (hZ.decl (by decide)) vx_n))))) (by decide +kernel) hZ.1 hZ.2.1 hS (hl.1.trans hml.symm) dX6_sensorAt_15 dX6_sensorAt_18 dX6_sensorAt_19 dX6_sensorAt_22 dX6_sensorAt_25 (fun x hx => (htab x hx).elim) (Nat.le_of_ble_eq_true rfl) (Nat.le_of_ble_eq_true rfl) (Nat.le_of_ble_eq_true rfl) (Nat.le_of_ble_eq_true rfl) hlocks (fun t ha hsz hk => ⟨(), trivial, ⟨rfl, hP9.kept (fun k q hq => hk q.1 (hP9 k q hq).lt), va_K.moved ha hK9, hD9⟩, Nat.le_trans hS.1 hsz, fun q h1 h2 => (hk q (Nat.lt_of_lt_of_le h1 hS.1)).trans (hS.2.1 q h1 h2)⟩) hS.2.2 (Nat.le_of_ble_eq_true rfl) (Nat.le_of_ble_eq_true rfl)
set_option maxHeartbeats 4000000 in
set_option maxRecDepth 100000 in
theorem m_specificationAt (l : Launch) (hl9 : l.stackTraces = false) (dC : Nat → ClassId) (dI : Nat → Nat → Nat) (sz : Nat) (ed : Nat) (h0 : Nat) (a : Nat) (v0 : Value) (v1 : Value) (v3 : Value) (v4 : Value) (v5 : Value) (v6 : Value) (v7 : Value) (w0 : Value) (w1 : Value) (p0 : Int32) : vx_Met l yX6_specificationAt (pw_ws yX6_specificationAt cX6_specificationAt 2 (some (.object "Shakerhall$Specification"))) ({ frames := 6, cells := 1, slots := 6, locals := 100 } : Room) (va_Pc [.ref h0, .int p0] (fun U => U.heap.size = sz ∧ va_P (dC, dI) vwCl [(h0, .inr (11, [v0, v1, .ref a, v3, v4, v5, v6, v7])), (a, .inr (4, [w0, w1, .int 0]))] U.heap ∧ va_K (dC, dI) vwCl [] U ∧ va_D (fun _ => True) [(h0, .inr (11, [v0, v1, .ref a, v3, v4, v5, v6, v7])), (a, .inr (4, [w0, w1, .int 0]))] ∧ pz ed (va_A [(h0, .inr (11, [v0, v1, .ref a, v3, v4, v5, v6, v7])), (a, .inr (4, [w0, w1, .int 0]))] sz) U U.heap)) (va_Qr (fun (_ : Unit) => False) (fun (_ : Unit) (_ : Nat) (_ : State) => True) (va_A [(h0, .inr (11, [v0, v1, .ref a, v3, v4, v5, v6, v7])), (a, .inr (4, [w0, w1, .int 0]))] sz)) (vx_X px_T (fun (E : String) (_ : Unit) (t : State) => E = "java/lang/IndexOutOfBoundsException" ∧ va_P (dC, dI) vwCl [(h0, .inr (11, [v0, v1, .ref a, v3, v4, v5, v6, v7])), (a, .inr (4, [w0, w1, .int 0]))] t.heap ∧ va_K (dC, dI) vwCl [] t ∧ va_D (va_A [(h0, .inr (11, [v0, v1, .ref a, v3, v4, v5, v6, v7])), (a, .inr (4, [w0, w1, .int 0]))] sz) [(h0, .inr (11, [v0, v1, .ref a, v3, v4, v5, v6, v7])), (a, .inr (4, [w0, w1, .int 0]))]) (va_A [(h0, .inr (11, [v0, v1, .ref a, v3, v4, v5, v6, v7])), (a, .inr (4, [w0, w1, .int 0]))] sz)) 1 6 (va_A [(h0, .inr (11, [v0, v1, .ref a, v3, v4, v5, v6, v7])), (a, .inr (4, [w0, w1, .int 0]))] sz) := by
  refine vx_ofW (cc := cX6_specificationAt) (maxL := 2) (ret := (some (.object "Shakerhall$Specification"))) (by decide) rfl ?_
  intro p e s m args below meth c s₁ B hml htab hv
  obtain ⟨rfl, hsz, hP, hK, hD0, hZ⟩ := hv
  have hx := B.exec
  have hb := B.bytes
  have hr := B.returns
  have hts0 := atoms_spec (ws := (pw_ws yX6_specificationAt cX6_specificationAt 2 (some (.object "Shakerhall$Specification")))) B.pre
  have hts : ∀ w ∈ pw_all, w.before _ s = true := fun w h => hts0 w (List.mem_cons_of_mem _ h)
  have hown : s.vm.findClass RX6 = some m.cls := findClass_of_methodNamed B.named
  have hlocks := B.notSynchronized
  subst hsz
  have hD := hD0.self (sz := s.heap.size)
  generalize hAe : va_A [(h0, .inr (11, [v0, v1, .ref a, v3, v4, v5, v6, v7])), (a, .inr (4, [w0, w1, .int 0]))] s.heap.size = A at hD hZ ⊢
  have hA : ∀ q : Nat, s.heap.size ≤ q → A q := fun q h => by rw [← hAe]; exact Or.inr h
  have hS : va_S A s.heap s.heap [] := va_S.rf
  have hP : va_P (dC, dI) vwCl [(h0, .inr (11, [v0, v1, .ref a, v3, v4, v5, v6, v7])), (a, .inr (4, [w0, w1, .int 0]))] s.heap := hP
  have hl := lv_entry ([.ref h0, .int p0]) (n := 2) (Nat.le_of_ble_eq_true rfl)
  rw [lg_entry_eq]
  generalize (lg_sl ([.ref h0, .int p0]) ++ List.replicate (2 - (lg_sl ([.ref h0, .int p0])).length) Slot.unset).toArray = ls at hl ⊢
  have hl : lv_has ls 2 [(0, .ref h0), (1, .int p0)] := hl
  skip
  refine lv_iload_n hx hb dX6_specificationAt_0 rfl (lv_at hl 1 rfl) ?_
  refine lv_if_lt (tgt := 15) hx hb dX6_specificationAt_1 (by decide) (fun c_94 => ?_) (fun c_94 => ?_)
  · skip
    have hP9 := hP.sub (ws' := [(h0, .inr (11, [v0, v1, .ref a, v3, v4, v5, v6, v7])), (a, .inr (4, [w0, w1, .int 0]))]) [0, 1] rfl
    have hD9 := hD.sub (ws' := [(h0, .inr (11, [v0, v1, .ref a, v3, v4, v5, v6, v7])), (a, .inr (4, [w0, w1, .int 0]))]) [0, 1] (by decide) rfl
    have hK9 := hK.sub (tys' := []) [] rfl
    obtain ⟨sa, hstr⟩ := hZ.str (own := "Shakerhall") (k := 395) (tx := "no such specification") (by decide)
    exact vx_throwSW (own := RX6) (cls := "java/lang/IndexOutOfBoundsException") (names := ["java/lang/RuntimeException", "java/lang/Exception"]) hx hb hl9 hown (by decide +kernel) (by decide +kernel) (hts _ q512) (hts _ q60) hstr (vx_hat (L := vx_atS RX6 392 "java/lang/IndexOutOfBoundsException" ["java/lang/RuntimeException", "java/lang/Exception"]) (B := [.castable "java/lang/IndexOutOfBoundsException" "java/lang/IndexOutOfBoundsException", .declares ⟨"java/lang/RuntimeException", "<init>", "(Ljava/lang/String;)V"⟩, .declares ⟨"java/lang/Exception", "<init>", "(Ljava/lang/String;)V"⟩, .declares ⟨"java/lang/Throwable", "<init>", "(Ljava/lang/String;)V"⟩]) (fun w hw => hts w (at_RX6_392 w hw)) (by decide +kernel) (vx_c (hZ.cast (by decide)) (vx_c (hZ.decl (by decide)) (vx_c (hZ.decl (by decide)) (vx_c (hZ.decl (by decide)) vx_n))))) (by decide +kernel) hZ.1 hZ.2.1 hS (hl.1.trans hml.symm) dX6_specificationAt_15 dX6_specificationAt_18 dX6_specificationAt_19 dX6_specificationAt_22 dX6_specificationAt_25 (fun x hx => (htab x hx).elim) (Nat.le_of_ble_eq_true rfl) (Nat.le_of_ble_eq_true rfl) (Nat.le_of_ble_eq_true rfl) (Nat.le_of_ble_eq_true rfl) hlocks (fun t ha hsz hk => ⟨(), trivial, ⟨rfl, hP9.kept (fun k q hq => hk q.1 (hP9 k q hq).lt), va_K.moved ha hK9, hD9⟩, Nat.le_trans hS.1 hsz, fun q h1 h2 => (hk q (Nat.lt_of_lt_of_le h1 hS.1)).trans (hS.2.1 q h1 h2)⟩) hS.2.2 (Nat.le_of_ble_eq_true rfl) (Nat.le_of_ble_eq_true rfl)
  · skip
    refine lv_iload_n hx hb dX6_specificationAt_4 rfl (lv_at hl 1 rfl) ?_
    refine lv_aload_n hx hb dX6_specificationAt_5 rfl (lv_at hl 0 rfl) ?_
    refine va_get (D := (dC, dI)) (ci := 11) (v := .ref a) (C := RX6) (T := TX6) (N := 8) hx hb hts inX6 hown hK hP 0 rfl rfl 2 (by decide) (hts _ q195) (fun _ h9 => h9) rfl dX6_specificationAt_6 ?_
    have hPc := hP.sub (ws' := [(a, .inr (4, [w0, w1, .int 0]))]) [1] rfl
    have hDc := hD.sub (ws' := [(a, .inr (4, [w0, w1, .int 0]))]) [1] (by decide) rfl
    have hKc := hK.sub (tys' := []) [] rfl
    have hFc := va_free (wc := [(a, .inr (4, [w0, w1, .int 0]))]) hD hS hA [1] rfl
    refine va_calli (va_runV (As := []) (rest := [.int p0]) ⟨hx, hb, hml, hown, hts⟩ (m_size l dC dI s.heap.size a w0 w1 0) (cwV 0 hts (pw_V q273 q274 q275 q46 q276) rfl rfl rfl (by decide +kernel) ⟨(Nat.le_of_ble_eq_true rfl), (Nat.le_of_ble_eq_true rfl)⟩) ⟨fun a U g mk q => by obtain ⟨q0, q1, qP, qK, qD⟩ := q; exact ⟨q0, q1, qP, va_K.moved (u := U) (U := U.calling g mk a) (Vm.Alike.refl U.vm) qK, qD⟩, va_recv hKc hPc (ci := 4) (q0 := 0) rfl rfl, fun U hU hW => ⟨rfl, by rw [hU], by rw [hU]; exact hPc, va_K.moved hW.alike hKc, hDc.weaken (fun _ _ _ _ => trivial)⟩⟩ rfl rfl hl.1 rfl (lv_room (Nat.le_of_ble_eq_true rfl)) dX6_specificationAt_9 ⟨(Nat.le_of_ble_eq_true rfl), (Nat.le_of_ble_eq_true rfl)⟩) hS (fun q _ h => hFc q h) hFc (fun r_95 u t H1 locs ht hvm hw hB hz1 hk1 hS => ?_)
    obtain ⟨hP1, hK1, hD1⟩ := hB
    rw [ht] at hP1
    have hK1 := va_K.moved hvm.symm hK1
    obtain ⟨hP, hD⟩ := va_join (wr := [(h0, .inr (11, [v0, v1, .ref a, v3, v4, v5, v6, v7]))]) (w1 := [(a, .inr (4, [w0, w1, .int 0]))]) hP hD [1] [0] rfl rfl (by decide) (by decide) hk1 hFc hP1 hD1
    have hK := (hK.sub (tys' := []) [] rfl).app hK1
    generalize H1 = H at hP hS ⊢
    have hP : va_P (dC, dI) vwCl [(h0, .inr (11, [v0, v1, .ref a, v3, v4, v5, v6, v7])), (a, .inr (4, [w0, w1, .int 0]))] H := hP
    have hD : va_D A [(h0, .inr (11, [v0, v1, .ref a, v3, v4, v5, v6, v7])), (a, .inr (4, [w0, w1, .int 0]))] := hD
    have hK : va_K (dC, dI) vwCl [] s := hK
    refine W.widen (k := 0) (n := 0) (Nat.le_of_ble_eq_true rfl) (Nat.le_of_ble_eq_true rfl) ?_
    have hw : r_95 = 0 := hw
    subst hw
    refine lv_icmp_lt (tgt := 26) hx hb dX6_specificationAt_12 (by decide) (fun c_96 => absurd c_96 c_94) (fun c_96 => ?_)
    have hP9 := hP.sub (ws' := [(h0, .inr (11, [v0, v1, .ref a, v3, v4, v5, v6, v7])), (a, .inr (4, [w0, w1, .int 0]))]) [0, 1] rfl
    have hD9 := hD.sub (ws' := [(h0, .inr (11, [v0, v1, .ref a, v3, v4, v5, v6, v7])), (a, .inr (4, [w0, w1, .int 0]))]) [0, 1] (by decide) rfl
    have hK9 := hK.sub (tys' := []) [] rfl
    obtain ⟨sa, hstr⟩ := hZ.str (own := "Shakerhall") (k := 395) (tx := "no such specification") (by decide)
    exact vx_throwSW (own := RX6) (cls := "java/lang/IndexOutOfBoundsException") (names := ["java/lang/RuntimeException", "java/lang/Exception"]) hx hb hl9 hown (by decide +kernel) (by decide +kernel) (hts _ q512) (hts _ q60) hstr (vx_hat (L := vx_atS RX6 392 "java/lang/IndexOutOfBoundsException" ["java/lang/RuntimeException", "java/lang/Exception"]) (B := [.castable "java/lang/IndexOutOfBoundsException" "java/lang/IndexOutOfBoundsException", .declares ⟨"java/lang/RuntimeException", "<init>", "(Ljava/lang/String;)V"⟩, .declares ⟨"java/lang/Exception", "<init>", "(Ljava/lang/String;)V"⟩, .declares ⟨"java/lang/Throwable", "<init>", "(Ljava/lang/String;)V"⟩]) (fun w hw => hts w (at_RX6_392 w hw)) (by decide +kernel) (vx_c (hZ.cast (by decide)) (vx_c (hZ.decl (by decide)) (vx_c (hZ.decl (by decide)) (vx_c (hZ.decl (by decide)) vx_n))))) (by decide +kernel) hZ.1 hZ.2.1 hS (hl.1.trans hml.symm) dX6_specificationAt_15 dX6_specificationAt_18 dX6_specificationAt_19 dX6_specificationAt_22 dX6_specificationAt_25 (fun x hx => (htab x hx).elim) (Nat.le_of_ble_eq_true rfl) (Nat.le_of_ble_eq_true rfl) (Nat.le_of_ble_eq_true rfl) (Nat.le_of_ble_eq_true rfl) hlocks (fun t ha hsz hk => ⟨(), trivial, ⟨rfl, hP9.kept (fun k q hq => hk q.1 (hP9 k q hq).lt), va_K.moved ha hK9, hD9⟩, Nat.le_trans hS.1 hsz, fun q h1 h2 => (hk q (Nat.lt_of_lt_of_le h1 hS.1)).trans (hS.2.1 q h1 h2)⟩) hS.2.2 (Nat.le_of_ble_eq_true rfl) (Nat.le_of_ble_eq_true rfl)
set_option maxHeartbeats 4000000 in
set_option maxRecDepth 100000 in
theorem m_runAt (l : Launch) (hl9 : l.stackTraces = false) (dC : Nat → ClassId) (dI : Nat → Nat → Nat) (sz : Nat) (ed : Nat) (h0 : Nat) (a : Nat) (v0 : Value) (v1 : Value) (v2 : Value) (v4 : Value) (v5 : Value) (v6 : Value) (v7 : Value) (w0 : Value) (w1 : Value) (p0 : Int32) : vx_Met l yX6_runAt (pw_ws yX6_runAt cX6_runAt 2 (some (.object "Shakerhall$Run"))) ({ frames := 6, cells := 1, slots := 6, locals := 100 } : Room) (va_Pc [.ref h0, .int p0] (fun U => U.heap.size = sz ∧ va_P (dC, dI) vwCl [(h0, .inr (11, [v0, v1, v2, .ref a, v4, v5, v6, v7])), (a, .inr (4, [w0, w1, .int 0]))] U.heap ∧ va_K (dC, dI) vwCl [] U ∧ va_D (fun _ => True) [(h0, .inr (11, [v0, v1, v2, .ref a, v4, v5, v6, v7])), (a, .inr (4, [w0, w1, .int 0]))] ∧ pz ed (va_A [(h0, .inr (11, [v0, v1, v2, .ref a, v4, v5, v6, v7])), (a, .inr (4, [w0, w1, .int 0]))] sz) U U.heap)) (va_Qr (fun (_ : Unit) => False) (fun (_ : Unit) (_ : Nat) (_ : State) => True) (va_A [(h0, .inr (11, [v0, v1, v2, .ref a, v4, v5, v6, v7])), (a, .inr (4, [w0, w1, .int 0]))] sz)) (vx_X px_T (fun (E : String) (_ : Unit) (t : State) => E = "java/lang/IndexOutOfBoundsException" ∧ va_P (dC, dI) vwCl [(h0, .inr (11, [v0, v1, v2, .ref a, v4, v5, v6, v7])), (a, .inr (4, [w0, w1, .int 0]))] t.heap ∧ va_K (dC, dI) vwCl [] t ∧ va_D (va_A [(h0, .inr (11, [v0, v1, v2, .ref a, v4, v5, v6, v7])), (a, .inr (4, [w0, w1, .int 0]))] sz) [(h0, .inr (11, [v0, v1, v2, .ref a, v4, v5, v6, v7])), (a, .inr (4, [w0, w1, .int 0]))]) (va_A [(h0, .inr (11, [v0, v1, v2, .ref a, v4, v5, v6, v7])), (a, .inr (4, [w0, w1, .int 0]))] sz)) 1 6 (va_A [(h0, .inr (11, [v0, v1, v2, .ref a, v4, v5, v6, v7])), (a, .inr (4, [w0, w1, .int 0]))] sz) := by
  refine vx_ofW (cc := cX6_runAt) (maxL := 2) (ret := (some (.object "Shakerhall$Run"))) (by decide) rfl ?_
  intro p e s m args below meth c s₁ B hml htab hv
  obtain ⟨rfl, hsz, hP, hK, hD0, hZ⟩ := hv
  have hx := B.exec
  have hb := B.bytes
  have hr := B.returns
  have hts0 := atoms_spec (ws := (pw_ws yX6_runAt cX6_runAt 2 (some (.object "Shakerhall$Run")))) B.pre
  have hts : ∀ w ∈ pw_all, w.before _ s = true := fun w h => hts0 w (List.mem_cons_of_mem _ h)
  have hown : s.vm.findClass RX6 = some m.cls := findClass_of_methodNamed B.named
  have hlocks := B.notSynchronized
  subst hsz
  have hD := hD0.self (sz := s.heap.size)
  generalize hAe : va_A [(h0, .inr (11, [v0, v1, v2, .ref a, v4, v5, v6, v7])), (a, .inr (4, [w0, w1, .int 0]))] s.heap.size = A at hD hZ ⊢
  have hA : ∀ q : Nat, s.heap.size ≤ q → A q := fun q h => by rw [← hAe]; exact Or.inr h
  have hS : va_S A s.heap s.heap [] := va_S.rf
  have hP : va_P (dC, dI) vwCl [(h0, .inr (11, [v0, v1, v2, .ref a, v4, v5, v6, v7])), (a, .inr (4, [w0, w1, .int 0]))] s.heap := hP
  have hl := lv_entry ([.ref h0, .int p0]) (n := 2) (Nat.le_of_ble_eq_true rfl)
  rw [lg_entry_eq]
  generalize (lg_sl ([.ref h0, .int p0]) ++ List.replicate (2 - (lg_sl ([.ref h0, .int p0])).length) Slot.unset).toArray = ls at hl ⊢
  have hl : lv_has ls 2 [(0, .ref h0), (1, .int p0)] := hl
  skip
  refine lv_iload_n hx hb dX6_runAt_0 rfl (lv_at hl 1 rfl) ?_
  refine lv_if_lt (tgt := 15) hx hb dX6_runAt_1 (by decide) (fun c_97 => ?_) (fun c_97 => ?_)
  · skip
    have hP9 := hP.sub (ws' := [(h0, .inr (11, [v0, v1, v2, .ref a, v4, v5, v6, v7])), (a, .inr (4, [w0, w1, .int 0]))]) [0, 1] rfl
    have hD9 := hD.sub (ws' := [(h0, .inr (11, [v0, v1, v2, .ref a, v4, v5, v6, v7])), (a, .inr (4, [w0, w1, .int 0]))]) [0, 1] (by decide) rfl
    have hK9 := hK.sub (tys' := []) [] rfl
    obtain ⟨sa, hstr⟩ := hZ.str (own := "Shakerhall") (k := 397) (tx := "no such run") (by decide)
    exact vx_throwSW (own := RX6) (cls := "java/lang/IndexOutOfBoundsException") (names := ["java/lang/RuntimeException", "java/lang/Exception"]) hx hb hl9 hown (by decide +kernel) (by decide +kernel) (hts _ q512) (hts _ q60) hstr (vx_hat (L := vx_atS RX6 392 "java/lang/IndexOutOfBoundsException" ["java/lang/RuntimeException", "java/lang/Exception"]) (B := [.castable "java/lang/IndexOutOfBoundsException" "java/lang/IndexOutOfBoundsException", .declares ⟨"java/lang/RuntimeException", "<init>", "(Ljava/lang/String;)V"⟩, .declares ⟨"java/lang/Exception", "<init>", "(Ljava/lang/String;)V"⟩, .declares ⟨"java/lang/Throwable", "<init>", "(Ljava/lang/String;)V"⟩]) (fun w hw => hts w (at_RX6_392 w hw)) (by decide +kernel) (vx_c (hZ.cast (by decide)) (vx_c (hZ.decl (by decide)) (vx_c (hZ.decl (by decide)) (vx_c (hZ.decl (by decide)) vx_n))))) (by decide +kernel) hZ.1 hZ.2.1 hS (hl.1.trans hml.symm) dX6_runAt_15 dX6_runAt_18 dX6_runAt_19 dX6_runAt_22 dX6_runAt_25 (fun x hx => (htab x hx).elim) (Nat.le_of_ble_eq_true rfl) (Nat.le_of_ble_eq_true rfl) (Nat.le_of_ble_eq_true rfl) (Nat.le_of_ble_eq_true rfl) hlocks (fun t ha hsz hk => ⟨(), trivial, ⟨rfl, hP9.kept (fun k q hq => hk q.1 (hP9 k q hq).lt), va_K.moved ha hK9, hD9⟩, Nat.le_trans hS.1 hsz, fun q h1 h2 => (hk q (Nat.lt_of_lt_of_le h1 hS.1)).trans (hS.2.1 q h1 h2)⟩) hS.2.2 (Nat.le_of_ble_eq_true rfl) (Nat.le_of_ble_eq_true rfl)
  · skip
    refine lv_iload_n hx hb dX6_runAt_4 rfl (lv_at hl 1 rfl) ?_
    refine lv_aload_n hx hb dX6_runAt_5 rfl (lv_at hl 0 rfl) ?_
    refine va_get (D := (dC, dI)) (ci := 11) (v := .ref a) (C := RX6) (T := TX6) (N := 8) hx hb hts inX6 hown hK hP 0 rfl rfl 3 (by decide) (hts _ q196) (fun _ h9 => h9) rfl dX6_runAt_6 ?_
    have hPc := hP.sub (ws' := [(a, .inr (4, [w0, w1, .int 0]))]) [1] rfl
    have hDc := hD.sub (ws' := [(a, .inr (4, [w0, w1, .int 0]))]) [1] (by decide) rfl
    have hKc := hK.sub (tys' := []) [] rfl
    have hFc := va_free (wc := [(a, .inr (4, [w0, w1, .int 0]))]) hD hS hA [1] rfl
    refine va_calli (va_runV (As := []) (rest := [.int p0]) ⟨hx, hb, hml, hown, hts⟩ (m_size l dC dI s.heap.size a w0 w1 0) (cwV 0 hts (pw_V q273 q274 q275 q46 q276) rfl rfl rfl (by decide +kernel) ⟨(Nat.le_of_ble_eq_true rfl), (Nat.le_of_ble_eq_true rfl)⟩) ⟨fun a U g mk q => by obtain ⟨q0, q1, qP, qK, qD⟩ := q; exact ⟨q0, q1, qP, va_K.moved (u := U) (U := U.calling g mk a) (Vm.Alike.refl U.vm) qK, qD⟩, va_recv hKc hPc (ci := 4) (q0 := 0) rfl rfl, fun U hU hW => ⟨rfl, by rw [hU], by rw [hU]; exact hPc, va_K.moved hW.alike hKc, hDc.weaken (fun _ _ _ _ => trivial)⟩⟩ rfl rfl hl.1 rfl (lv_room (Nat.le_of_ble_eq_true rfl)) dX6_runAt_9 ⟨(Nat.le_of_ble_eq_true rfl), (Nat.le_of_ble_eq_true rfl)⟩) hS (fun q _ h => hFc q h) hFc (fun r_98 u t H1 locs ht hvm hw hB hz1 hk1 hS => ?_)
    obtain ⟨hP1, hK1, hD1⟩ := hB
    rw [ht] at hP1
    have hK1 := va_K.moved hvm.symm hK1
    obtain ⟨hP, hD⟩ := va_join (wr := [(h0, .inr (11, [v0, v1, v2, .ref a, v4, v5, v6, v7]))]) (w1 := [(a, .inr (4, [w0, w1, .int 0]))]) hP hD [1] [0] rfl rfl (by decide) (by decide) hk1 hFc hP1 hD1
    have hK := (hK.sub (tys' := []) [] rfl).app hK1
    generalize H1 = H at hP hS ⊢
    have hP : va_P (dC, dI) vwCl [(h0, .inr (11, [v0, v1, v2, .ref a, v4, v5, v6, v7])), (a, .inr (4, [w0, w1, .int 0]))] H := hP
    have hD : va_D A [(h0, .inr (11, [v0, v1, v2, .ref a, v4, v5, v6, v7])), (a, .inr (4, [w0, w1, .int 0]))] := hD
    have hK : va_K (dC, dI) vwCl [] s := hK
    refine W.widen (k := 0) (n := 0) (Nat.le_of_ble_eq_true rfl) (Nat.le_of_ble_eq_true rfl) ?_
    have hw : r_98 = 0 := hw
    subst hw
    refine lv_icmp_lt (tgt := 26) hx hb dX6_runAt_12 (by decide) (fun c_99 => absurd c_99 c_97) (fun c_99 => ?_)
    have hP9 := hP.sub (ws' := [(h0, .inr (11, [v0, v1, v2, .ref a, v4, v5, v6, v7])), (a, .inr (4, [w0, w1, .int 0]))]) [0, 1] rfl
    have hD9 := hD.sub (ws' := [(h0, .inr (11, [v0, v1, v2, .ref a, v4, v5, v6, v7])), (a, .inr (4, [w0, w1, .int 0]))]) [0, 1] (by decide) rfl
    have hK9 := hK.sub (tys' := []) [] rfl
    obtain ⟨sa, hstr⟩ := hZ.str (own := "Shakerhall") (k := 397) (tx := "no such run") (by decide)
    exact vx_throwSW (own := RX6) (cls := "java/lang/IndexOutOfBoundsException") (names := ["java/lang/RuntimeException", "java/lang/Exception"]) hx hb hl9 hown (by decide +kernel) (by decide +kernel) (hts _ q512) (hts _ q60) hstr (vx_hat (L := vx_atS RX6 392 "java/lang/IndexOutOfBoundsException" ["java/lang/RuntimeException", "java/lang/Exception"]) (B := [.castable "java/lang/IndexOutOfBoundsException" "java/lang/IndexOutOfBoundsException", .declares ⟨"java/lang/RuntimeException", "<init>", "(Ljava/lang/String;)V"⟩, .declares ⟨"java/lang/Exception", "<init>", "(Ljava/lang/String;)V"⟩, .declares ⟨"java/lang/Throwable", "<init>", "(Ljava/lang/String;)V"⟩]) (fun w hw => hts w (at_RX6_392 w hw)) (by decide +kernel) (vx_c (hZ.cast (by decide)) (vx_c (hZ.decl (by decide)) (vx_c (hZ.decl (by decide)) (vx_c (hZ.decl (by decide)) vx_n))))) (by decide +kernel) hZ.1 hZ.2.1 hS (hl.1.trans hml.symm) dX6_runAt_15 dX6_runAt_18 dX6_runAt_19 dX6_runAt_22 dX6_runAt_25 (fun x hx => (htab x hx).elim) (Nat.le_of_ble_eq_true rfl) (Nat.le_of_ble_eq_true rfl) (Nat.le_of_ble_eq_true rfl) (Nat.le_of_ble_eq_true rfl) hlocks (fun t ha hsz hk => ⟨(), trivial, ⟨rfl, hP9.kept (fun k q hq => hk q.1 (hP9 k q hq).lt), va_K.moved ha hK9, hD9⟩, Nat.le_trans hS.1 hsz, fun q h1 h2 => (hk q (Nat.lt_of_lt_of_le h1 hS.1)).trans (hS.2.1 q h1 h2)⟩) hS.2.2 (Nat.le_of_ble_eq_true rfl) (Nat.le_of_ble_eq_true rfl)
