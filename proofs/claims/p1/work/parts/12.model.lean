set_option maxHeartbeats 4000000 in
set_option maxRecDepth 100000 in
theorem n_thrown (l : Launch) (dC : Nat → ClassId) (dI : Nat → Nat → Nat) (sz : Nat) (h0 : Nat) (v0 : Value) (v1 : Value) (v2 : Value) (v3 : Value) (v4 : Value) (th : Int32) : Met l yX10_thrown (pw_ws yX10_thrown cX10_thrown 1 (some .int)) ({ frames := 1, cells := 0, slots := 0, locals := 20 } : Room) (va_Pc [.ref h0] (fun U => U.heap.size = sz ∧ va_P (dC, dI) vwCl [(h0, .inr (15, [v0, v1, v2, v3, v4, .int th]))] U.heap ∧ va_K (dC, dI) vwCl [] U ∧ va_D (fun _ => True) [(h0, .inr (15, [v0, v1, v2, v3, v4, .int th]))])) (va_Qi (fun (r : Int32) (_ : Unit) => r = th) (fun (_ : Unit) (t : State) => va_P (dC, dI) vwCl [(h0, .inr (15, [v0, v1, v2, v3, v4, .int th]))] t.heap ∧ va_K (dC, dI) vwCl [] t ∧ va_D (va_A [(h0, .inr (15, [v0, v1, v2, v3, v4, .int th]))] sz) [(h0, .inr (15, [v0, v1, v2, v3, v4, .int th]))]) (va_A [(h0, .inr (15, [v0, v1, v2, v3, v4, .int th]))] sz)) 0 0 (va_A [(h0, .inr (15, [v0, v1, v2, v3, v4, .int th]))] sz) := by
  refine Met.ofW (cc := cX10_thrown) (maxL := 1) (ret := (some .int)) (by decide) rfl ?_
  intro p e s m args below meth c s₁ B hml hv
  obtain ⟨rfl, hsz, hP, hK, hD0⟩ := hv
  have hx := B.exec
  have hb := B.bytes
  have hr := B.returns
  have hts0 := atoms_spec (ws := (pw_ws yX10_thrown cX10_thrown 1 (some .int))) B.pre
  have hts : ∀ w ∈ pw_all, w.before _ s = true := fun w h => hts0 w (List.mem_cons_of_mem _ h)
  have hown : s.vm.findClass RX10 = some m.cls := findClass_of_methodNamed B.named
  have hlocks := B.notSynchronized
  subst hsz
  have hD := hD0.self (sz := s.heap.size)
  generalize hAe : va_A [(h0, .inr (15, [v0, v1, v2, v3, v4, .int th]))] s.heap.size = A at hD ⊢
  have hA : ∀ q : Nat, s.heap.size ≤ q → A q := fun q h => by rw [← hAe]; exact Or.inr h
  have hS : va_S A s.heap s.heap [] := va_S.rf
  have hP : va_P (dC, dI) vwCl [(h0, .inr (15, [v0, v1, v2, v3, v4, .int th]))] s.heap := hP
  have hl := lv_entry ([.ref h0]) (n := 1) (Nat.le_of_ble_eq_true rfl)
  rw [lg_entry_eq]
  generalize (lg_sl ([.ref h0]) ++ List.replicate (1 - (lg_sl ([.ref h0])).length) Slot.unset).toArray = ls at hl ⊢
  have hl : lv_has ls 1 [(0, .ref h0)] := hl
  skip
  refine lv_aload_n hx hb dX10_thrown_0 rfl (lv_at hl 0 rfl) ?_
  refine va_get (D := (dC, dI)) (ci := 15) (v := .int th) (C := RX10) (T := TX10) (N := 6) hx hb hts inX10 hown hK hP 0 rfl rfl 5 (by decide) (hts _ q1230) (fun _ h9 => h9) rfl dX10_thrown_1 ?_
  have hP9 := hP.sub (ws' := [(h0, .inr (15, [v0, v1, v2, v3, v4, .int th]))]) [0] rfl
  have hD9 := hD.sub (ws' := [(h0, .inr (15, [v0, v1, v2, v3, v4, .int th]))]) [0] (by decide) rfl
  have hK9 := hK.sub (tys' := []) [] rfl
  refine W.widen (k := 0) (n := 0) (Nat.le_of_ble_eq_true rfl) (Nat.le_of_ble_eq_true rfl) ?_
  exact W.iret (v := th) hx hb hr (fun t ht hW => ⟨⟨th, (), rfl, rfl, ⟨by rw [ht]; exact hP9, va_K.moved hW.alike hK9, hD9⟩⟩, hS.F ht⟩) hS.2.2 dX10_thrown_4
set_option maxHeartbeats 4000000 in
set_option maxRecDepth 100000 in
theorem n_isThrown1 (l : Launch) (dC : Nat → ClassId) (dI : Nat → Nat → Nat) (sz : Nat) (h0 : Nat) (v0 : Value) (v1 : Value) (v2 : Value) (v3 : Value) (v4 : Value) (th : Int32) (w : Int32) : Met l yX10_isThrown (pw_ws yX10_isThrown cX10_isThrown 3 (some .boolean)) ({ frames := 1, cells := 0, slots := 0, locals := 20 } : Room) (va_Pc [.ref h0, .int 1, .int w] (fun U => U.heap.size = sz ∧ va_P (dC, dI) vwCl [(h0, .inr (15, [v0, v1, v2, v3, v4, .int th]))] U.heap ∧ va_K (dC, dI) vwCl [] U ∧ va_D (fun _ => True) [(h0, .inr (15, [v0, v1, v2, v3, v4, .int th]))])) (va_Qi (fun (r : Int32) (_ : Unit) => r = 1) (fun (_ : Unit) (t : State) => va_P (dC, dI) vwCl [(h0, .inr (15, [v0, v1, v2, v3, v4, .int w]))] t.heap ∧ va_K (dC, dI) vwCl [] t ∧ va_D (va_A [(h0, .inr (15, [v0, v1, v2, v3, v4, .int th]))] sz) [(h0, .inr (15, [v0, v1, v2, v3, v4, .int w]))]) (va_A [(h0, .inr (15, [v0, v1, v2, v3, v4, .int th]))] sz)) 0 0 (va_A [(h0, .inr (15, [v0, v1, v2, v3, v4, .int th]))] sz) := by
  refine Met.ofW (cc := cX10_isThrown) (maxL := 3) (ret := (some .boolean)) (by decide) rfl ?_
  intro p e s m args below meth c s₁ B hml hv
  obtain ⟨rfl, hsz, hP, hK, hD0⟩ := hv
  have hx := B.exec
  have hb := B.bytes
  have hr := B.returns
  have hts0 := atoms_spec (ws := (pw_ws yX10_isThrown cX10_isThrown 3 (some .boolean))) B.pre
  have hts : ∀ w ∈ pw_all, w.before _ s = true := fun w h => hts0 w (List.mem_cons_of_mem _ h)
  have hown : s.vm.findClass RX10 = some m.cls := findClass_of_methodNamed B.named
  have hlocks := B.notSynchronized
  subst hsz
  have hD := hD0.self (sz := s.heap.size)
  generalize hAe : va_A [(h0, .inr (15, [v0, v1, v2, v3, v4, .int th]))] s.heap.size = A at hD ⊢
  have hA : ∀ q : Nat, s.heap.size ≤ q → A q := fun q h => by rw [← hAe]; exact Or.inr h
  have hS : va_S A s.heap s.heap [] := va_S.rf
  have hP : va_P (dC, dI) vwCl [(h0, .inr (15, [v0, v1, v2, v3, v4, .int th]))] s.heap := hP
  have hl := lv_entry ([.ref h0, .int 1, .int w]) (n := 3) (Nat.le_of_ble_eq_true rfl)
  rw [lg_entry_eq]
  generalize (lg_sl ([.ref h0, .int 1, .int w]) ++ List.replicate (3 - (lg_sl ([.ref h0, .int 1, .int w])).length) Slot.unset).toArray = ls at hl ⊢
  have hl : lv_has ls 3 [(0, .ref h0), (1, .int 1), (2, .int w)] := hl
  skip
  refine lv_aload_n hx hb dX10_isThrown_0 rfl (lv_at hl 0 rfl) ?_
  refine lv_iload_n hx hb dX10_isThrown_1 rfl (lv_at hl 1 rfl) ?_
  refine lv_if_eq (tgt := 9) hx hb dX10_isThrown_2 (by decide) (fun c_236 => absurd c_236 (by decide)) (fun c_236 => ?_)
  refine lv_iload_n hx hb dX10_isThrown_5 rfl (lv_at hl 2 rfl) ?_
  refine lv_goto (tgt := 10) hx hb dX10_isThrown_6 (by decide) ?_
  refine va_put (D := (dC, dI)) (ci := 15) (v := .int w) (ty := .int) (C := RX10) (T := TX10) (N := 6) hx hb hts inX10 tyX10 tyX10_ok nmX10 hown hK hP hD hS 0 rfl rfl 5 (by decide) (hts _ q1230) (fun _ h9 => h9) rfl (by decide +kernel) rfl rfl (Nat.le_of_ble_eq_true rfl) dX10_isThrown_10 (fun H locs hP hD hS => ?_)
  have hP : va_P (dC, dI) vwCl [(h0, .inr (15, [v0, v1, v2, v3, v4, .int w]))] H := hP
  have hD : va_D A [(h0, .inr (15, [v0, v1, v2, v3, v4, .int w]))] := hD
  refine lv_iload_n hx hb dX10_isThrown_13 rfl (lv_at hl 1 rfl) ?_
  have hP9 := hP.sub (ws' := [(h0, .inr (15, [v0, v1, v2, v3, v4, .int w]))]) [0] rfl
  have hD9 := hD.sub (ws' := [(h0, .inr (15, [v0, v1, v2, v3, v4, .int w]))]) [0] (by decide) rfl
  have hK9 := hK.sub (tys' := []) [] rfl
  refine W.widen (k := 0) (n := 0) (Nat.le_of_ble_eq_true rfl) (Nat.le_of_ble_eq_true rfl) ?_
  exact W.zret (v := 1) hx hb hr (by decide) (fun t ht hW => ⟨⟨1, (), rfl, rfl, ⟨by rw [ht]; exact hP9, va_K.moved hW.alike hK9, hD9⟩⟩, hS.F ht⟩) hS.2.2 dX10_isThrown_14
set_option maxHeartbeats 4000000 in
set_option maxRecDepth 100000 in
theorem n_isThrown0 (l : Launch) (dC : Nat → ClassId) (dI : Nat → Nat → Nat) (sz : Nat) (h0 : Nat) (v0 : Value) (v1 : Value) (v2 : Value) (v3 : Value) (v4 : Value) (th : Int32) (w : Int32) : Met l yX10_isThrown (pw_ws yX10_isThrown cX10_isThrown 3 (some .boolean)) ({ frames := 1, cells := 0, slots := 0, locals := 20 } : Room) (va_Pc [.ref h0, .int 0, .int w] (fun U => U.heap.size = sz ∧ va_P (dC, dI) vwCl [(h0, .inr (15, [v0, v1, v2, v3, v4, .int th]))] U.heap ∧ va_K (dC, dI) vwCl [] U ∧ va_D (fun _ => True) [(h0, .inr (15, [v0, v1, v2, v3, v4, .int th]))])) (va_Qi (fun (r : Int32) (_ : Unit) => r = 0) (fun (_ : Unit) (t : State) => va_P (dC, dI) vwCl [(h0, .inr (15, [v0, v1, v2, v3, v4, .int 0]))] t.heap ∧ va_K (dC, dI) vwCl [] t ∧ va_D (va_A [(h0, .inr (15, [v0, v1, v2, v3, v4, .int th]))] sz) [(h0, .inr (15, [v0, v1, v2, v3, v4, .int 0]))]) (va_A [(h0, .inr (15, [v0, v1, v2, v3, v4, .int th]))] sz)) 0 0 (va_A [(h0, .inr (15, [v0, v1, v2, v3, v4, .int th]))] sz) := by
  refine Met.ofW (cc := cX10_isThrown) (maxL := 3) (ret := (some .boolean)) (by decide) rfl ?_
  intro p e s m args below meth c s₁ B hml hv
  obtain ⟨rfl, hsz, hP, hK, hD0⟩ := hv
  have hx := B.exec
  have hb := B.bytes
  have hr := B.returns
  have hts0 := atoms_spec (ws := (pw_ws yX10_isThrown cX10_isThrown 3 (some .boolean))) B.pre
  have hts : ∀ w ∈ pw_all, w.before _ s = true := fun w h => hts0 w (List.mem_cons_of_mem _ h)
  have hown : s.vm.findClass RX10 = some m.cls := findClass_of_methodNamed B.named
  have hlocks := B.notSynchronized
  subst hsz
  have hD := hD0.self (sz := s.heap.size)
  generalize hAe : va_A [(h0, .inr (15, [v0, v1, v2, v3, v4, .int th]))] s.heap.size = A at hD ⊢
  have hA : ∀ q : Nat, s.heap.size ≤ q → A q := fun q h => by rw [← hAe]; exact Or.inr h
  have hS : va_S A s.heap s.heap [] := va_S.rf
  have hP : va_P (dC, dI) vwCl [(h0, .inr (15, [v0, v1, v2, v3, v4, .int th]))] s.heap := hP
  have hl := lv_entry ([.ref h0, .int 0, .int w]) (n := 3) (Nat.le_of_ble_eq_true rfl)
  rw [lg_entry_eq]
  generalize (lg_sl ([.ref h0, .int 0, .int w]) ++ List.replicate (3 - (lg_sl ([.ref h0, .int 0, .int w])).length) Slot.unset).toArray = ls at hl ⊢
  have hl : lv_has ls 3 [(0, .ref h0), (1, .int 0), (2, .int w)] := hl
  skip
  refine lv_aload_n hx hb dX10_isThrown_0 rfl (lv_at hl 0 rfl) ?_
  refine lv_iload_n hx hb dX10_isThrown_1 rfl (lv_at hl 1 rfl) ?_
  refine lv_if_eq (tgt := 9) hx hb dX10_isThrown_2 (by decide) (fun c_237 => ?_) (fun c_237 => absurd (by decide) c_237)
  refine lv_iconst (v := 0) hx hb dX10_isThrown_9 (by decide) ?_
  refine va_put (D := (dC, dI)) (ci := 15) (v := .int 0) (ty := .int) (C := RX10) (T := TX10) (N := 6) hx hb hts inX10 tyX10 tyX10_ok nmX10 hown hK hP hD hS 0 rfl rfl 5 (by decide) (hts _ q1230) (fun _ h9 => h9) rfl (by decide +kernel) rfl rfl (Nat.le_of_ble_eq_true rfl) dX10_isThrown_10 (fun H locs hP hD hS => ?_)
  have hP : va_P (dC, dI) vwCl [(h0, .inr (15, [v0, v1, v2, v3, v4, .int 0]))] H := hP
  have hD : va_D A [(h0, .inr (15, [v0, v1, v2, v3, v4, .int 0]))] := hD
  refine lv_iload_n hx hb dX10_isThrown_13 rfl (lv_at hl 1 rfl) ?_
  have hP9 := hP.sub (ws' := [(h0, .inr (15, [v0, v1, v2, v3, v4, .int 0]))]) [0] rfl
  have hD9 := hD.sub (ws' := [(h0, .inr (15, [v0, v1, v2, v3, v4, .int 0]))]) [0] (by decide) rfl
  have hK9 := hK.sub (tys' := []) [] rfl
  refine W.widen (k := 0) (n := 0) (Nat.le_of_ble_eq_true rfl) (Nat.le_of_ble_eq_true rfl) ?_
  exact W.zret (v := 0) hx hb hr (by decide) (fun t ht hW => ⟨⟨0, (), rfl, rfl, ⟨by rw [ht]; exact hP9, va_K.moved hW.alike hK9, hD9⟩⟩, hS.F ht⟩) hS.2.2 dX10_isThrown_14
set_option maxHeartbeats 4000000 in
set_option maxRecDepth 100000 in
theorem n_isIn1 (l : Launch) (dC : Nat → ClassId) (dI : Nat → Nat → Nat) (sz : Nat) (n : Int32) (lo : Int32) (hi : Int32) (h1 : ¬ n < lo) (h2 : ¬ hi < n) : Met l yX10_isIn (pw_ws yX10_isIn cX10_isIn 3 (some .boolean)) ({ frames := 1, cells := 0, slots := 0, locals := 20 } : Room) (va_Pc [.int n, .int lo, .int hi] (fun U => U.heap.size = sz ∧ va_P (dC, dI) vwCl [] U.heap ∧ va_K (dC, dI) vwCl [] U ∧ va_D (fun _ => True) [])) (va_Qi (fun (r : Int32) (_ : Unit) => r = 1) (fun (_ : Unit) (t : State) => va_P (dC, dI) vwCl [] t.heap ∧ va_K (dC, dI) vwCl [] t ∧ va_D (va_A [] sz) []) (va_A [] sz)) 0 0 (va_A [] sz) := by
  refine Met.ofW (cc := cX10_isIn) (maxL := 3) (ret := (some .boolean)) (by decide) rfl ?_
  intro p e s m args below meth c s₁ B hml hv
  obtain ⟨rfl, hsz, hP, hK, hD0⟩ := hv
  have hx := B.exec
  have hb := B.bytes
  have hr := B.returns
  have hts0 := atoms_spec (ws := (pw_ws yX10_isIn cX10_isIn 3 (some .boolean))) B.pre
  have hts : ∀ w ∈ pw_all, w.before _ s = true := fun w h => hts0 w (List.mem_cons_of_mem _ h)
  have hown : s.vm.findClass RX10 = some m.cls := findClass_of_methodNamed B.named
  have hlocks := B.notSynchronized
  subst hsz
  have hD := hD0.self (sz := s.heap.size)
  generalize hAe : va_A [] s.heap.size = A at hD ⊢
  have hA : ∀ q : Nat, s.heap.size ≤ q → A q := fun q h => by rw [← hAe]; exact Or.inr h
  have hS : va_S A s.heap s.heap [] := va_S.rf
  have hP : va_P (dC, dI) vwCl [] s.heap := hP
  have hl := lv_entry ([.int n, .int lo, .int hi]) (n := 3) (Nat.le_of_ble_eq_true rfl)
  rw [lg_entry_eq]
  generalize (lg_sl ([.int n, .int lo, .int hi]) ++ List.replicate (3 - (lg_sl ([.int n, .int lo, .int hi])).length) Slot.unset).toArray = ls at hl ⊢
  have hl : lv_has ls 3 [(0, .int n), (1, .int lo), (2, .int hi)] := hl
  skip
  refine lv_iload_n hx hb dX10_isIn_0 rfl (lv_at hl 0 rfl) ?_
  refine lv_iload_n hx hb dX10_isIn_1 rfl (lv_at hl 1 rfl) ?_
  refine lv_icmp_lt (tgt := 14) hx hb dX10_isIn_2 (by decide) (fun c_238 => absurd c_238 h1) (fun c_238 => ?_)
  refine lv_iload_n hx hb dX10_isIn_5 rfl (lv_at hl 0 rfl) ?_
  refine lv_iload_n hx hb dX10_isIn_6 rfl (lv_at hl 2 rfl) ?_
  refine lv_icmp_gt (tgt := 14) hx hb dX10_isIn_7 (by decide) (fun c_239 => absurd c_239 h2) (fun c_239 => ?_)
  refine lv_iconst (v := 1) hx hb dX10_isIn_10 (by decide) ?_
  refine lv_goto (tgt := 15) hx hb dX10_isIn_11 (by decide) ?_
  have hP9 := hP.sub (ws' := []) [] rfl
  have hD9 := hD.sub (ws' := []) [] (by decide) rfl
  have hK9 := hK.sub (tys' := []) [] rfl
  refine W.widen (k := 0) (n := 0) (Nat.le_of_ble_eq_true rfl) (Nat.le_of_ble_eq_true rfl) ?_
  exact W.zret (v := 1) hx hb hr (by decide) (fun t ht hW => ⟨⟨1, (), rfl, rfl, ⟨by rw [ht]; exact hP9, va_K.moved hW.alike hK9, hD9⟩⟩, hS.F ht⟩) hS.2.2 dX10_isIn_15
set_option maxHeartbeats 4000000 in
set_option maxRecDepth 100000 in
theorem n_isIn0 (l : Launch) (dC : Nat → ClassId) (dI : Nat → Nat → Nat) (sz : Nat) (n : Int32) (lo : Int32) (hi : Int32) (h1 : n < lo ∨ hi < n) : Met l yX10_isIn (pw_ws yX10_isIn cX10_isIn 3 (some .boolean)) ({ frames := 1, cells := 0, slots := 0, locals := 20 } : Room) (va_Pc [.int n, .int lo, .int hi] (fun U => U.heap.size = sz ∧ va_P (dC, dI) vwCl [] U.heap ∧ va_K (dC, dI) vwCl [] U ∧ va_D (fun _ => True) [])) (va_Qi (fun (r : Int32) (_ : Unit) => r = 0) (fun (_ : Unit) (t : State) => va_P (dC, dI) vwCl [] t.heap ∧ va_K (dC, dI) vwCl [] t ∧ va_D (va_A [] sz) []) (va_A [] sz)) 0 0 (va_A [] sz) := by
  refine Met.ofW (cc := cX10_isIn) (maxL := 3) (ret := (some .boolean)) (by decide) rfl ?_
  intro p e s m args below meth c s₁ B hml hv
  obtain ⟨rfl, hsz, hP, hK, hD0⟩ := hv
  have hx := B.exec
  have hb := B.bytes
  have hr := B.returns
  have hts0 := atoms_spec (ws := (pw_ws yX10_isIn cX10_isIn 3 (some .boolean))) B.pre
  have hts : ∀ w ∈ pw_all, w.before _ s = true := fun w h => hts0 w (List.mem_cons_of_mem _ h)
  have hown : s.vm.findClass RX10 = some m.cls := findClass_of_methodNamed B.named
  have hlocks := B.notSynchronized
  subst hsz
  have hD := hD0.self (sz := s.heap.size)
  generalize hAe : va_A [] s.heap.size = A at hD ⊢
  have hA : ∀ q : Nat, s.heap.size ≤ q → A q := fun q h => by rw [← hAe]; exact Or.inr h
  have hS : va_S A s.heap s.heap [] := va_S.rf
  have hP : va_P (dC, dI) vwCl [] s.heap := hP
  have hl := lv_entry ([.int n, .int lo, .int hi]) (n := 3) (Nat.le_of_ble_eq_true rfl)
  rw [lg_entry_eq]
  generalize (lg_sl ([.int n, .int lo, .int hi]) ++ List.replicate (3 - (lg_sl ([.int n, .int lo, .int hi])).length) Slot.unset).toArray = ls at hl ⊢
  have hl : lv_has ls 3 [(0, .int n), (1, .int lo), (2, .int hi)] := hl
  skip
  refine lv_iload_n hx hb dX10_isIn_0 rfl (lv_at hl 0 rfl) ?_
  refine lv_iload_n hx hb dX10_isIn_1 rfl (lv_at hl 1 rfl) ?_
  refine lv_icmp_lt (tgt := 14) hx hb dX10_isIn_2 (by decide) (fun c_240 => ?_) (fun c_240 => ?_)
  · skip
    refine lv_iconst (v := 0) hx hb dX10_isIn_14 (by decide) ?_
    have hP9 := hP.sub (ws' := []) [] rfl
    have hD9 := hD.sub (ws' := []) [] (by decide) rfl
    have hK9 := hK.sub (tys' := []) [] rfl
    refine W.widen (k := 0) (n := 0) (Nat.le_of_ble_eq_true rfl) (Nat.le_of_ble_eq_true rfl) ?_
    exact W.zret (v := 0) hx hb hr (by decide) (fun t ht hW => ⟨⟨0, (), rfl, rfl, ⟨by rw [ht]; exact hP9, va_K.moved hW.alike hK9, hD9⟩⟩, hS.F ht⟩) hS.2.2 dX10_isIn_15
  · skip
    refine lv_iload_n hx hb dX10_isIn_5 rfl (lv_at hl 0 rfl) ?_
    refine lv_iload_n hx hb dX10_isIn_6 rfl (lv_at hl 2 rfl) ?_
    refine lv_icmp_gt (tgt := 14) hx hb dX10_isIn_7 (by decide) (fun c_241 => ?_) (fun c_241 => absurd (h1.resolve_left c_240) c_241)
    refine lv_iconst (v := 0) hx hb dX10_isIn_14 (by decide) ?_
    have hP9 := hP.sub (ws' := []) [] rfl
    have hD9 := hD.sub (ws' := []) [] (by decide) rfl
    have hK9 := hK.sub (tys' := []) [] rfl
    refine W.widen (k := 0) (n := 0) (Nat.le_of_ble_eq_true rfl) (Nat.le_of_ble_eq_true rfl) ?_
    exact W.zret (v := 0) hx hb hr (by decide) (fun t ht hW => ⟨⟨0, (), rfl, rfl, ⟨by rw [ht]; exact hP9, va_K.moved hW.alike hK9, hD9⟩⟩, hS.F ht⟩) hS.2.2 dX10_isIn_15
set_option maxHeartbeats 4000000 in
set_option maxRecDepth 100000 in
theorem n_isNoStructure (l : Launch) (dC : Nat → ClassId) (dI : Nat → Nat → Nat) (sz : Nat) (h0 : Nat) (a : Nat) (v1 : Value) (v2 : Value) (v3 : Value) (v4 : Value) (v5 : Value) (w0 : Value) (w1 : Value) (p0 : Int32) : Met l yX10_isNoStructure (pw_ws yX10_isNoStructure cX10_isNoStructure 2 (some .boolean)) ({ frames := 2, cells := 0, slots := 0, locals := 42 } : Room) (va_Pc [.ref h0, .int p0] (fun U => U.heap.size = sz ∧ va_P (dC, dI) vwCl [(h0, .inr (15, [.ref a, v1, v2, v3, v4, v5])), (a, .inr (4, [w0, w1, .int 0]))] U.heap ∧ va_K (dC, dI) vwCl [] U ∧ va_D (fun _ => True) [(h0, .inr (15, [.ref a, v1, v2, v3, v4, v5])), (a, .inr (4, [w0, w1, .int 0]))])) (va_Qi (fun (r : Int32) (_ : Unit) => r = 1) (fun (_ : Unit) (t : State) => va_P (dC, dI) vwCl [(h0, .inr (15, [.ref a, v1, v2, v3, v4, v5])), (a, .inr (4, [w0, w1, .int 0]))] t.heap ∧ va_K (dC, dI) vwCl [] t ∧ va_D (va_A [(h0, .inr (15, [.ref a, v1, v2, v3, v4, v5])), (a, .inr (4, [w0, w1, .int 0]))] sz) [(h0, .inr (15, [.ref a, v1, v2, v3, v4, v5])), (a, .inr (4, [w0, w1, .int 0]))]) (va_A [(h0, .inr (15, [.ref a, v1, v2, v3, v4, v5])), (a, .inr (4, [w0, w1, .int 0]))] sz)) 0 0 (va_A [(h0, .inr (15, [.ref a, v1, v2, v3, v4, v5])), (a, .inr (4, [w0, w1, .int 0]))] sz) := by
  refine Met.ofW (cc := cX10_isNoStructure) (maxL := 2) (ret := (some .boolean)) (by decide) rfl ?_
  intro p e s m args below meth c s₁ B hml hv
  obtain ⟨rfl, hsz, hP, hK, hD0⟩ := hv
  have hx := B.exec
  have hb := B.bytes
  have hr := B.returns
  have hts0 := atoms_spec (ws := (pw_ws yX10_isNoStructure cX10_isNoStructure 2 (some .boolean))) B.pre
  have hts : ∀ w ∈ pw_all, w.before _ s = true := fun w h => hts0 w (List.mem_cons_of_mem _ h)
  have hown : s.vm.findClass RX10 = some m.cls := findClass_of_methodNamed B.named
  have hlocks := B.notSynchronized
  subst hsz
  have hD := hD0.self (sz := s.heap.size)
  generalize hAe : va_A [(h0, .inr (15, [.ref a, v1, v2, v3, v4, v5])), (a, .inr (4, [w0, w1, .int 0]))] s.heap.size = A at hD ⊢
  have hA : ∀ q : Nat, s.heap.size ≤ q → A q := fun q h => by rw [← hAe]; exact Or.inr h
  have hS : va_S A s.heap s.heap [] := va_S.rf
  have hP : va_P (dC, dI) vwCl [(h0, .inr (15, [.ref a, v1, v2, v3, v4, v5])), (a, .inr (4, [w0, w1, .int 0]))] s.heap := hP
  have hl := lv_entry ([.ref h0, .int p0]) (n := 2) (Nat.le_of_ble_eq_true rfl)
  rw [lg_entry_eq]
  generalize (lg_sl ([.ref h0, .int p0]) ++ List.replicate (2 - (lg_sl ([.ref h0, .int p0])).length) Slot.unset).toArray = ls at hl ⊢
  have hl : lv_has ls 2 [(0, .ref h0), (1, .int p0)] := hl
  skip
  refine lv_iload_n hx hb dX10_isNoStructure_0 rfl (lv_at hl 1 rfl) ?_
  refine lv_iconst (v := 0) hx hb dX10_isNoStructure_1 (by decide) ?_
  refine lv_aload_n hx hb dX10_isNoStructure_2 rfl (lv_at hl 0 rfl) ?_
  refine va_get (D := (dC, dI)) (ci := 15) (v := .ref a) (C := RX10) (T := TX10) (N := 6) hx hb hts inX10 hown hK hP 0 rfl rfl 0 (by decide) (hts _ q1225) (fun _ h9 => h9) rfl dX10_isNoStructure_3 ?_
  have hPc := hP.sub (ws' := [(a, .inr (4, [w0, w1, .int 0]))]) [1] rfl
  have hDc := hD.sub (ws' := [(a, .inr (4, [w0, w1, .int 0]))]) [1] (by decide) rfl
  have hKc := hK.sub (tys' := []) [] rfl
  have hFc := va_free (wc := [(a, .inr (4, [w0, w1, .int 0]))]) hD hS hA [1] rfl
  refine va_calli (va_runV (As := []) (rest := [.int 0, .int p0]) ⟨hx, hb, hml, hown, hts⟩ (m_size l dC dI s.heap.size a w0 w1 0) (cwV 0 hts (pw_V q1252 q274 q275 q46 q276) rfl rfl rfl (by decide +kernel) ⟨(Nat.le_of_ble_eq_true rfl), (Nat.le_of_ble_eq_true rfl)⟩) ⟨fun a U g mk q => by obtain ⟨q0, q1, qP, qK, qD⟩ := q; exact ⟨q0, q1, qP, va_K.moved (u := U) (U := U.calling g mk a) (Vm.Alike.refl U.vm) qK, qD⟩, va_recv hKc hPc (ci := 4) (q0 := 0) rfl rfl, fun U hU hW => ⟨rfl, by rw [hU], by rw [hU]; exact hPc, va_K.moved hW.alike hKc, hDc.weaken (fun _ _ _ _ => trivial)⟩⟩ rfl rfl hl.1 rfl (lv_room (Nat.le_of_ble_eq_true rfl)) dX10_isNoStructure_6 ⟨(Nat.le_of_ble_eq_true rfl), (Nat.le_of_ble_eq_true rfl)⟩) hS (fun q _ h => hFc q h) hFc (fun r_242 u t H1 locs ht hvm hw hB hz1 hk1 hS => ?_)
  obtain ⟨hP1, hK1, hD1⟩ := hB
  rw [ht] at hP1
  have hK1 := va_K.moved hvm.symm hK1
  obtain ⟨hP, hD⟩ := va_join (wr := [(h0, .inr (15, [.ref a, v1, v2, v3, v4, v5]))]) (w1 := [(a, .inr (4, [w0, w1, .int 0]))]) hP hD [1] [0] rfl rfl (by decide) (by decide) hk1 hFc hP1 hD1
  have hK := (hK.sub (tys' := []) [] rfl).app hK1
  generalize H1 = H at hP hS ⊢
  have hP : va_P (dC, dI) vwCl [(h0, .inr (15, [.ref a, v1, v2, v3, v4, v5])), (a, .inr (4, [w0, w1, .int 0]))] H := hP
  have hD : va_D A [(h0, .inr (15, [.ref a, v1, v2, v3, v4, v5])), (a, .inr (4, [w0, w1, .int 0]))] := hD
  have hK : va_K (dC, dI) vwCl [] s := hK
  refine W.widen (k := 0) (n := 0) (Nat.le_of_ble_eq_true rfl) (Nat.le_of_ble_eq_true rfl) ?_
  have hw : r_242 = 0 := hw
  subst hw
  refine lv_iconst (v := 1) hx hb dX10_isNoStructure_9 (by decide) ?_
  refine lv_isub hx hb dX10_isNoStructure_10 ?_
  refine lv_numI (v := (-1)) (by decide) ?_
  have hPc := hP.sub (ws' := []) [] rfl
  have hDc := hD.sub (ws' := []) [] (by decide) rfl
  have hKc := hK.sub (tys' := []) [] rfl
  have hFc := va_free (wc := []) hD hS hA [] rfl
  refine va_calli (va_runS (As := [.int p0, .int 0, .int (-1)]) (rest := []) ⟨hx, hb, hml, hown, hts⟩ (n_isIn0 l dC dI H.size p0 0 (-1) (pl_none p0)) (va_cwS 3 hts (pw_S q1299 q1300 q49 q1301) rfl rfl rfl (by decide +kernel) ⟨(Nat.le_of_ble_eq_true rfl), (Nat.le_of_ble_eq_true rfl)⟩) ⟨fun a U g mk q => by obtain ⟨q0, q1, qP, qK, qD⟩ := q; exact ⟨q0, q1, qP, va_K.moved (u := U) (U := U.calling g mk a) (Vm.Alike.refl U.vm) qK, qD⟩, fun U hU hW => ⟨rfl, by rw [hU], by rw [hU]; exact hPc, va_K.moved hW.alike hKc, hDc.weaken (fun _ _ _ _ => trivial)⟩⟩ rfl rfl hl.1 rfl (lv_room (Nat.le_of_ble_eq_true rfl)) dX10_isNoStructure_11 ⟨(Nat.le_of_ble_eq_true rfl), (Nat.le_of_ble_eq_true rfl)⟩) hS (fun q _ h => hFc q h) hFc (fun r_243 u t H1 locs ht hvm hw hB hz1 hk1 hS => ?_)
  obtain ⟨hP1, hK1, hD1⟩ := hB
  rw [ht] at hP1
  have hK1 := va_K.moved hvm.symm hK1
  obtain ⟨hP, hD⟩ := va_join (wr := [(h0, .inr (15, [.ref a, v1, v2, v3, v4, v5])), (a, .inr (4, [w0, w1, .int 0]))]) (w1 := []) hP hD [] [0, 1] rfl rfl (by decide) (by decide) hk1 hFc hP1 hD1
  have hK := (hK.sub (tys' := []) [] rfl).app hK1
  generalize H1 = H at hP hS ⊢
  have hP : va_P (dC, dI) vwCl [(h0, .inr (15, [.ref a, v1, v2, v3, v4, v5])), (a, .inr (4, [w0, w1, .int 0]))] H := hP
  have hD : va_D A [(h0, .inr (15, [.ref a, v1, v2, v3, v4, v5])), (a, .inr (4, [w0, w1, .int 0]))] := hD
  have hK : va_K (dC, dI) vwCl [] s := hK
  refine W.widen (k := 0) (n := 0) (Nat.le_of_ble_eq_true rfl) (Nat.le_of_ble_eq_true rfl) ?_
  have hw : r_243 = 0 := hw
  subst hw
  refine lv_if_ne (tgt := 21) hx hb dX10_isNoStructure_14 (by decide) (fun c_244 => absurd (by decide) c_244) (fun c_244 => ?_)
  refine lv_iconst (v := 1) hx hb dX10_isNoStructure_17 (by decide) ?_
  refine lv_goto (tgt := 22) hx hb dX10_isNoStructure_18 (by decide) ?_
  have hP9 := hP.sub (ws' := [(h0, .inr (15, [.ref a, v1, v2, v3, v4, v5])), (a, .inr (4, [w0, w1, .int 0]))]) [0, 1] rfl
  have hD9 := hD.sub (ws' := [(h0, .inr (15, [.ref a, v1, v2, v3, v4, v5])), (a, .inr (4, [w0, w1, .int 0]))]) [0, 1] (by decide) rfl
  have hK9 := hK.sub (tys' := []) [] rfl
  refine W.widen (k := 0) (n := 0) (Nat.le_of_ble_eq_true rfl) (Nat.le_of_ble_eq_true rfl) ?_
  exact W.zret (v := 1) hx hb hr (by decide) (fun t ht hW => ⟨⟨1, (), rfl, rfl, ⟨by rw [ht]; exact hP9, va_K.moved hW.alike hK9, hD9⟩⟩, hS.F ht⟩) hS.2.2 dX10_isNoStructure_22
set_option maxHeartbeats 4000000 in
set_option maxRecDepth 100000 in
theorem n_isNoSensor (l : Launch) (dC : Nat → ClassId) (dI : Nat → Nat → Nat) (sz : Nat) (h0 : Nat) (a : Nat) (v0 : Value) (v2 : Value) (v3 : Value) (v4 : Value) (v5 : Value) (w0 : Value) (w1 : Value) (p0 : Int32) : Met l yX10_isNoSensor (pw_ws yX10_isNoSensor cX10_isNoSensor 2 (some .boolean)) ({ frames := 2, cells := 0, slots := 0, locals := 42 } : Room) (va_Pc [.ref h0, .int p0] (fun U => U.heap.size = sz ∧ va_P (dC, dI) vwCl [(h0, .inr (15, [v0, .ref a, v2, v3, v4, v5])), (a, .inr (4, [w0, w1, .int 0]))] U.heap ∧ va_K (dC, dI) vwCl [] U ∧ va_D (fun _ => True) [(h0, .inr (15, [v0, .ref a, v2, v3, v4, v5])), (a, .inr (4, [w0, w1, .int 0]))])) (va_Qi (fun (r : Int32) (_ : Unit) => r = 1) (fun (_ : Unit) (t : State) => va_P (dC, dI) vwCl [(h0, .inr (15, [v0, .ref a, v2, v3, v4, v5])), (a, .inr (4, [w0, w1, .int 0]))] t.heap ∧ va_K (dC, dI) vwCl [] t ∧ va_D (va_A [(h0, .inr (15, [v0, .ref a, v2, v3, v4, v5])), (a, .inr (4, [w0, w1, .int 0]))] sz) [(h0, .inr (15, [v0, .ref a, v2, v3, v4, v5])), (a, .inr (4, [w0, w1, .int 0]))]) (va_A [(h0, .inr (15, [v0, .ref a, v2, v3, v4, v5])), (a, .inr (4, [w0, w1, .int 0]))] sz)) 0 0 (va_A [(h0, .inr (15, [v0, .ref a, v2, v3, v4, v5])), (a, .inr (4, [w0, w1, .int 0]))] sz) := by
  refine Met.ofW (cc := cX10_isNoSensor) (maxL := 2) (ret := (some .boolean)) (by decide) rfl ?_
  intro p e s m args below meth c s₁ B hml hv
  obtain ⟨rfl, hsz, hP, hK, hD0⟩ := hv
  have hx := B.exec
  have hb := B.bytes
  have hr := B.returns
  have hts0 := atoms_spec (ws := (pw_ws yX10_isNoSensor cX10_isNoSensor 2 (some .boolean))) B.pre
  have hts : ∀ w ∈ pw_all, w.before _ s = true := fun w h => hts0 w (List.mem_cons_of_mem _ h)
  have hown : s.vm.findClass RX10 = some m.cls := findClass_of_methodNamed B.named
  have hlocks := B.notSynchronized
  subst hsz
  have hD := hD0.self (sz := s.heap.size)
  generalize hAe : va_A [(h0, .inr (15, [v0, .ref a, v2, v3, v4, v5])), (a, .inr (4, [w0, w1, .int 0]))] s.heap.size = A at hD ⊢
  have hA : ∀ q : Nat, s.heap.size ≤ q → A q := fun q h => by rw [← hAe]; exact Or.inr h
  have hS : va_S A s.heap s.heap [] := va_S.rf
  have hP : va_P (dC, dI) vwCl [(h0, .inr (15, [v0, .ref a, v2, v3, v4, v5])), (a, .inr (4, [w0, w1, .int 0]))] s.heap := hP
  have hl := lv_entry ([.ref h0, .int p0]) (n := 2) (Nat.le_of_ble_eq_true rfl)
  rw [lg_entry_eq]
  generalize (lg_sl ([.ref h0, .int p0]) ++ List.replicate (2 - (lg_sl ([.ref h0, .int p0])).length) Slot.unset).toArray = ls at hl ⊢
  have hl : lv_has ls 2 [(0, .ref h0), (1, .int p0)] := hl
  skip
  refine lv_iload_n hx hb dX10_isNoSensor_0 rfl (lv_at hl 1 rfl) ?_
  refine lv_iconst (v := 0) hx hb dX10_isNoSensor_1 (by decide) ?_
  refine lv_aload_n hx hb dX10_isNoSensor_2 rfl (lv_at hl 0 rfl) ?_
  refine va_get (D := (dC, dI)) (ci := 15) (v := .ref a) (C := RX10) (T := TX10) (N := 6) hx hb hts inX10 hown hK hP 0 rfl rfl 1 (by decide) (hts _ q1226) (fun _ h9 => h9) rfl dX10_isNoSensor_3 ?_
  have hPc := hP.sub (ws' := [(a, .inr (4, [w0, w1, .int 0]))]) [1] rfl
  have hDc := hD.sub (ws' := [(a, .inr (4, [w0, w1, .int 0]))]) [1] (by decide) rfl
  have hKc := hK.sub (tys' := []) [] rfl
  have hFc := va_free (wc := [(a, .inr (4, [w0, w1, .int 0]))]) hD hS hA [1] rfl
  refine va_calli (va_runV (As := []) (rest := [.int 0, .int p0]) ⟨hx, hb, hml, hown, hts⟩ (m_size l dC dI s.heap.size a w0 w1 0) (cwV 0 hts (pw_V q1252 q274 q275 q46 q276) rfl rfl rfl (by decide +kernel) ⟨(Nat.le_of_ble_eq_true rfl), (Nat.le_of_ble_eq_true rfl)⟩) ⟨fun a U g mk q => by obtain ⟨q0, q1, qP, qK, qD⟩ := q; exact ⟨q0, q1, qP, va_K.moved (u := U) (U := U.calling g mk a) (Vm.Alike.refl U.vm) qK, qD⟩, va_recv hKc hPc (ci := 4) (q0 := 0) rfl rfl, fun U hU hW => ⟨rfl, by rw [hU], by rw [hU]; exact hPc, va_K.moved hW.alike hKc, hDc.weaken (fun _ _ _ _ => trivial)⟩⟩ rfl rfl hl.1 rfl (lv_room (Nat.le_of_ble_eq_true rfl)) dX10_isNoSensor_6 ⟨(Nat.le_of_ble_eq_true rfl), (Nat.le_of_ble_eq_true rfl)⟩) hS (fun q _ h => hFc q h) hFc (fun r_245 u t H1 locs ht hvm hw hB hz1 hk1 hS => ?_)
  obtain ⟨hP1, hK1, hD1⟩ := hB
  rw [ht] at hP1
  have hK1 := va_K.moved hvm.symm hK1
  obtain ⟨hP, hD⟩ := va_join (wr := [(h0, .inr (15, [v0, .ref a, v2, v3, v4, v5]))]) (w1 := [(a, .inr (4, [w0, w1, .int 0]))]) hP hD [1] [0] rfl rfl (by decide) (by decide) hk1 hFc hP1 hD1
  have hK := (hK.sub (tys' := []) [] rfl).app hK1
  generalize H1 = H at hP hS ⊢
  have hP : va_P (dC, dI) vwCl [(h0, .inr (15, [v0, .ref a, v2, v3, v4, v5])), (a, .inr (4, [w0, w1, .int 0]))] H := hP
  have hD : va_D A [(h0, .inr (15, [v0, .ref a, v2, v3, v4, v5])), (a, .inr (4, [w0, w1, .int 0]))] := hD
  have hK : va_K (dC, dI) vwCl [] s := hK
  refine W.widen (k := 0) (n := 0) (Nat.le_of_ble_eq_true rfl) (Nat.le_of_ble_eq_true rfl) ?_
  have hw : r_245 = 0 := hw
  subst hw
  refine lv_iconst (v := 1) hx hb dX10_isNoSensor_9 (by decide) ?_
  refine lv_isub hx hb dX10_isNoSensor_10 ?_
  refine lv_numI (v := (-1)) (by decide) ?_
  have hPc := hP.sub (ws' := []) [] rfl
  have hDc := hD.sub (ws' := []) [] (by decide) rfl
  have hKc := hK.sub (tys' := []) [] rfl
  have hFc := va_free (wc := []) hD hS hA [] rfl
  refine va_calli (va_runS (As := [.int p0, .int 0, .int (-1)]) (rest := []) ⟨hx, hb, hml, hown, hts⟩ (n_isIn0 l dC dI H.size p0 0 (-1) (pl_none p0)) (va_cwS 3 hts (pw_S q1299 q1300 q49 q1301) rfl rfl rfl (by decide +kernel) ⟨(Nat.le_of_ble_eq_true rfl), (Nat.le_of_ble_eq_true rfl)⟩) ⟨fun a U g mk q => by obtain ⟨q0, q1, qP, qK, qD⟩ := q; exact ⟨q0, q1, qP, va_K.moved (u := U) (U := U.calling g mk a) (Vm.Alike.refl U.vm) qK, qD⟩, fun U hU hW => ⟨rfl, by rw [hU], by rw [hU]; exact hPc, va_K.moved hW.alike hKc, hDc.weaken (fun _ _ _ _ => trivial)⟩⟩ rfl rfl hl.1 rfl (lv_room (Nat.le_of_ble_eq_true rfl)) dX10_isNoSensor_11 ⟨(Nat.le_of_ble_eq_true rfl), (Nat.le_of_ble_eq_true rfl)⟩) hS (fun q _ h => hFc q h) hFc (fun r_246 u t H1 locs ht hvm hw hB hz1 hk1 hS => ?_)
  obtain ⟨hP1, hK1, hD1⟩ := hB
  rw [ht] at hP1
  have hK1 := va_K.moved hvm.symm hK1
  obtain ⟨hP, hD⟩ := va_join (wr := [(h0, .inr (15, [v0, .ref a, v2, v3, v4, v5])), (a, .inr (4, [w0, w1, .int 0]))]) (w1 := []) hP hD [] [0, 1] rfl rfl (by decide) (by decide) hk1 hFc hP1 hD1
  have hK := (hK.sub (tys' := []) [] rfl).app hK1
  generalize H1 = H at hP hS ⊢
  have hP : va_P (dC, dI) vwCl [(h0, .inr (15, [v0, .ref a, v2, v3, v4, v5])), (a, .inr (4, [w0, w1, .int 0]))] H := hP
  have hD : va_D A [(h0, .inr (15, [v0, .ref a, v2, v3, v4, v5])), (a, .inr (4, [w0, w1, .int 0]))] := hD
  have hK : va_K (dC, dI) vwCl [] s := hK
  refine W.widen (k := 0) (n := 0) (Nat.le_of_ble_eq_true rfl) (Nat.le_of_ble_eq_true rfl) ?_
  have hw : r_246 = 0 := hw
  subst hw
  refine lv_if_ne (tgt := 21) hx hb dX10_isNoSensor_14 (by decide) (fun c_247 => absurd (by decide) c_247) (fun c_247 => ?_)
  refine lv_iconst (v := 1) hx hb dX10_isNoSensor_17 (by decide) ?_
  refine lv_goto (tgt := 22) hx hb dX10_isNoSensor_18 (by decide) ?_
  have hP9 := hP.sub (ws' := [(h0, .inr (15, [v0, .ref a, v2, v3, v4, v5])), (a, .inr (4, [w0, w1, .int 0]))]) [0, 1] rfl
  have hD9 := hD.sub (ws' := [(h0, .inr (15, [v0, .ref a, v2, v3, v4, v5])), (a, .inr (4, [w0, w1, .int 0]))]) [0, 1] (by decide) rfl
  have hK9 := hK.sub (tys' := []) [] rfl
  refine W.widen (k := 0) (n := 0) (Nat.le_of_ble_eq_true rfl) (Nat.le_of_ble_eq_true rfl) ?_
  exact W.zret (v := 1) hx hb hr (by decide) (fun t ht hW => ⟨⟨1, (), rfl, rfl, ⟨by rw [ht]; exact hP9, va_K.moved hW.alike hK9, hD9⟩⟩, hS.F ht⟩) hS.2.2 dX10_isNoSensor_22
set_option maxHeartbeats 4000000 in
set_option maxRecDepth 100000 in
theorem n_isNoSpecification (l : Launch) (dC : Nat → ClassId) (dI : Nat → Nat → Nat) (sz : Nat) (h0 : Nat) (a : Nat) (v0 : Value) (v1 : Value) (v3 : Value) (v4 : Value) (v5 : Value) (w0 : Value) (w1 : Value) (p0 : Int32) : Met l yX10_isNoSpecification (pw_ws yX10_isNoSpecification cX10_isNoSpecification 2 (some .boolean)) ({ frames := 2, cells := 0, slots := 0, locals := 42 } : Room) (va_Pc [.ref h0, .int p0] (fun U => U.heap.size = sz ∧ va_P (dC, dI) vwCl [(h0, .inr (15, [v0, v1, .ref a, v3, v4, v5])), (a, .inr (4, [w0, w1, .int 0]))] U.heap ∧ va_K (dC, dI) vwCl [] U ∧ va_D (fun _ => True) [(h0, .inr (15, [v0, v1, .ref a, v3, v4, v5])), (a, .inr (4, [w0, w1, .int 0]))])) (va_Qi (fun (r : Int32) (_ : Unit) => r = 1) (fun (_ : Unit) (t : State) => va_P (dC, dI) vwCl [(h0, .inr (15, [v0, v1, .ref a, v3, v4, v5])), (a, .inr (4, [w0, w1, .int 0]))] t.heap ∧ va_K (dC, dI) vwCl [] t ∧ va_D (va_A [(h0, .inr (15, [v0, v1, .ref a, v3, v4, v5])), (a, .inr (4, [w0, w1, .int 0]))] sz) [(h0, .inr (15, [v0, v1, .ref a, v3, v4, v5])), (a, .inr (4, [w0, w1, .int 0]))]) (va_A [(h0, .inr (15, [v0, v1, .ref a, v3, v4, v5])), (a, .inr (4, [w0, w1, .int 0]))] sz)) 0 0 (va_A [(h0, .inr (15, [v0, v1, .ref a, v3, v4, v5])), (a, .inr (4, [w0, w1, .int 0]))] sz) := by
  refine Met.ofW (cc := cX10_isNoSpecification) (maxL := 2) (ret := (some .boolean)) (by decide) rfl ?_
  intro p e s m args below meth c s₁ B hml hv
  obtain ⟨rfl, hsz, hP, hK, hD0⟩ := hv
  have hx := B.exec
  have hb := B.bytes
  have hr := B.returns
  have hts0 := atoms_spec (ws := (pw_ws yX10_isNoSpecification cX10_isNoSpecification 2 (some .boolean))) B.pre
  have hts : ∀ w ∈ pw_all, w.before _ s = true := fun w h => hts0 w (List.mem_cons_of_mem _ h)
  have hown : s.vm.findClass RX10 = some m.cls := findClass_of_methodNamed B.named
  have hlocks := B.notSynchronized
  subst hsz
  have hD := hD0.self (sz := s.heap.size)
  generalize hAe : va_A [(h0, .inr (15, [v0, v1, .ref a, v3, v4, v5])), (a, .inr (4, [w0, w1, .int 0]))] s.heap.size = A at hD ⊢
  have hA : ∀ q : Nat, s.heap.size ≤ q → A q := fun q h => by rw [← hAe]; exact Or.inr h
  have hS : va_S A s.heap s.heap [] := va_S.rf
  have hP : va_P (dC, dI) vwCl [(h0, .inr (15, [v0, v1, .ref a, v3, v4, v5])), (a, .inr (4, [w0, w1, .int 0]))] s.heap := hP
  have hl := lv_entry ([.ref h0, .int p0]) (n := 2) (Nat.le_of_ble_eq_true rfl)
  rw [lg_entry_eq]
  generalize (lg_sl ([.ref h0, .int p0]) ++ List.replicate (2 - (lg_sl ([.ref h0, .int p0])).length) Slot.unset).toArray = ls at hl ⊢
  have hl : lv_has ls 2 [(0, .ref h0), (1, .int p0)] := hl
  skip
  refine lv_iload_n hx hb dX10_isNoSpecification_0 rfl (lv_at hl 1 rfl) ?_
  refine lv_iconst (v := 0) hx hb dX10_isNoSpecification_1 (by decide) ?_
  refine lv_aload_n hx hb dX10_isNoSpecification_2 rfl (lv_at hl 0 rfl) ?_
  refine va_get (D := (dC, dI)) (ci := 15) (v := .ref a) (C := RX10) (T := TX10) (N := 6) hx hb hts inX10 hown hK hP 0 rfl rfl 2 (by decide) (hts _ q1227) (fun _ h9 => h9) rfl dX10_isNoSpecification_3 ?_
  have hPc := hP.sub (ws' := [(a, .inr (4, [w0, w1, .int 0]))]) [1] rfl
  have hDc := hD.sub (ws' := [(a, .inr (4, [w0, w1, .int 0]))]) [1] (by decide) rfl
  have hKc := hK.sub (tys' := []) [] rfl
  have hFc := va_free (wc := [(a, .inr (4, [w0, w1, .int 0]))]) hD hS hA [1] rfl
  refine va_calli (va_runV (As := []) (rest := [.int 0, .int p0]) ⟨hx, hb, hml, hown, hts⟩ (m_size l dC dI s.heap.size a w0 w1 0) (cwV 0 hts (pw_V q1252 q274 q275 q46 q276) rfl rfl rfl (by decide +kernel) ⟨(Nat.le_of_ble_eq_true rfl), (Nat.le_of_ble_eq_true rfl)⟩) ⟨fun a U g mk q => by obtain ⟨q0, q1, qP, qK, qD⟩ := q; exact ⟨q0, q1, qP, va_K.moved (u := U) (U := U.calling g mk a) (Vm.Alike.refl U.vm) qK, qD⟩, va_recv hKc hPc (ci := 4) (q0 := 0) rfl rfl, fun U hU hW => ⟨rfl, by rw [hU], by rw [hU]; exact hPc, va_K.moved hW.alike hKc, hDc.weaken (fun _ _ _ _ => trivial)⟩⟩ rfl rfl hl.1 rfl (lv_room (Nat.le_of_ble_eq_true rfl)) dX10_isNoSpecification_6 ⟨(Nat.le_of_ble_eq_true rfl), (Nat.le_of_ble_eq_true rfl)⟩) hS (fun q _ h => hFc q h) hFc (fun r_248 u t H1 locs ht hvm hw hB hz1 hk1 hS => ?_)
  obtain ⟨hP1, hK1, hD1⟩ := hB
  rw [ht] at hP1
  have hK1 := va_K.moved hvm.symm hK1
  obtain ⟨hP, hD⟩ := va_join (wr := [(h0, .inr (15, [v0, v1, .ref a, v3, v4, v5]))]) (w1 := [(a, .inr (4, [w0, w1, .int 0]))]) hP hD [1] [0] rfl rfl (by decide) (by decide) hk1 hFc hP1 hD1
  have hK := (hK.sub (tys' := []) [] rfl).app hK1
  generalize H1 = H at hP hS ⊢
  have hP : va_P (dC, dI) vwCl [(h0, .inr (15, [v0, v1, .ref a, v3, v4, v5])), (a, .inr (4, [w0, w1, .int 0]))] H := hP
  have hD : va_D A [(h0, .inr (15, [v0, v1, .ref a, v3, v4, v5])), (a, .inr (4, [w0, w1, .int 0]))] := hD
  have hK : va_K (dC, dI) vwCl [] s := hK
  refine W.widen (k := 0) (n := 0) (Nat.le_of_ble_eq_true rfl) (Nat.le_of_ble_eq_true rfl) ?_
  have hw : r_248 = 0 := hw
  subst hw
  refine lv_iconst (v := 1) hx hb dX10_isNoSpecification_9 (by decide) ?_
  refine lv_isub hx hb dX10_isNoSpecification_10 ?_
  refine lv_numI (v := (-1)) (by decide) ?_
  have hPc := hP.sub (ws' := []) [] rfl
  have hDc := hD.sub (ws' := []) [] (by decide) rfl
  have hKc := hK.sub (tys' := []) [] rfl
  have hFc := va_free (wc := []) hD hS hA [] rfl
  refine va_calli (va_runS (As := [.int p0, .int 0, .int (-1)]) (rest := []) ⟨hx, hb, hml, hown, hts⟩ (n_isIn0 l dC dI H.size p0 0 (-1) (pl_none p0)) (va_cwS 3 hts (pw_S q1299 q1300 q49 q1301) rfl rfl rfl (by decide +kernel) ⟨(Nat.le_of_ble_eq_true rfl), (Nat.le_of_ble_eq_true rfl)⟩) ⟨fun a U g mk q => by obtain ⟨q0, q1, qP, qK, qD⟩ := q; exact ⟨q0, q1, qP, va_K.moved (u := U) (U := U.calling g mk a) (Vm.Alike.refl U.vm) qK, qD⟩, fun U hU hW => ⟨rfl, by rw [hU], by rw [hU]; exact hPc, va_K.moved hW.alike hKc, hDc.weaken (fun _ _ _ _ => trivial)⟩⟩ rfl rfl hl.1 rfl (lv_room (Nat.le_of_ble_eq_true rfl)) dX10_isNoSpecification_11 ⟨(Nat.le_of_ble_eq_true rfl), (Nat.le_of_ble_eq_true rfl)⟩) hS (fun q _ h => hFc q h) hFc (fun r_249 u t H1 locs ht hvm hw hB hz1 hk1 hS => ?_)
  obtain ⟨hP1, hK1, hD1⟩ := hB
  rw [ht] at hP1
  have hK1 := va_K.moved hvm.symm hK1
  obtain ⟨hP, hD⟩ := va_join (wr := [(h0, .inr (15, [v0, v1, .ref a, v3, v4, v5])), (a, .inr (4, [w0, w1, .int 0]))]) (w1 := []) hP hD [] [0, 1] rfl rfl (by decide) (by decide) hk1 hFc hP1 hD1
  have hK := (hK.sub (tys' := []) [] rfl).app hK1
  generalize H1 = H at hP hS ⊢
  have hP : va_P (dC, dI) vwCl [(h0, .inr (15, [v0, v1, .ref a, v3, v4, v5])), (a, .inr (4, [w0, w1, .int 0]))] H := hP
  have hD : va_D A [(h0, .inr (15, [v0, v1, .ref a, v3, v4, v5])), (a, .inr (4, [w0, w1, .int 0]))] := hD
  have hK : va_K (dC, dI) vwCl [] s := hK
  refine W.widen (k := 0) (n := 0) (Nat.le_of_ble_eq_true rfl) (Nat.le_of_ble_eq_true rfl) ?_
  have hw : r_249 = 0 := hw
  subst hw
  refine lv_if_ne (tgt := 21) hx hb dX10_isNoSpecification_14 (by decide) (fun c_250 => absurd (by decide) c_250) (fun c_250 => ?_)
  refine lv_iconst (v := 1) hx hb dX10_isNoSpecification_17 (by decide) ?_
  refine lv_goto (tgt := 22) hx hb dX10_isNoSpecification_18 (by decide) ?_
  have hP9 := hP.sub (ws' := [(h0, .inr (15, [v0, v1, .ref a, v3, v4, v5])), (a, .inr (4, [w0, w1, .int 0]))]) [0, 1] rfl
  have hD9 := hD.sub (ws' := [(h0, .inr (15, [v0, v1, .ref a, v3, v4, v5])), (a, .inr (4, [w0, w1, .int 0]))]) [0, 1] (by decide) rfl
  have hK9 := hK.sub (tys' := []) [] rfl
  refine W.widen (k := 0) (n := 0) (Nat.le_of_ble_eq_true rfl) (Nat.le_of_ble_eq_true rfl) ?_
  exact W.zret (v := 1) hx hb hr (by decide) (fun t ht hW => ⟨⟨1, (), rfl, rfl, ⟨by rw [ht]; exact hP9, va_K.moved hW.alike hK9, hD9⟩⟩, hS.F ht⟩) hS.2.2 dX10_isNoSpecification_22
set_option maxHeartbeats 4000000 in
set_option maxRecDepth 100000 in
theorem n_isNoRun (l : Launch) (dC : Nat → ClassId) (dI : Nat → Nat → Nat) (sz : Nat) (h0 : Nat) (a : Nat) (v0 : Value) (v1 : Value) (v2 : Value) (v4 : Value) (v5 : Value) (w0 : Value) (w1 : Value) (p0 : Int32) : Met l yX10_isNoRun (pw_ws yX10_isNoRun cX10_isNoRun 2 (some .boolean)) ({ frames := 2, cells := 0, slots := 0, locals := 42 } : Room) (va_Pc [.ref h0, .int p0] (fun U => U.heap.size = sz ∧ va_P (dC, dI) vwCl [(h0, .inr (15, [v0, v1, v2, .ref a, v4, v5])), (a, .inr (4, [w0, w1, .int 0]))] U.heap ∧ va_K (dC, dI) vwCl [] U ∧ va_D (fun _ => True) [(h0, .inr (15, [v0, v1, v2, .ref a, v4, v5])), (a, .inr (4, [w0, w1, .int 0]))])) (va_Qi (fun (r : Int32) (_ : Unit) => r = 1) (fun (_ : Unit) (t : State) => va_P (dC, dI) vwCl [(h0, .inr (15, [v0, v1, v2, .ref a, v4, v5])), (a, .inr (4, [w0, w1, .int 0]))] t.heap ∧ va_K (dC, dI) vwCl [] t ∧ va_D (va_A [(h0, .inr (15, [v0, v1, v2, .ref a, v4, v5])), (a, .inr (4, [w0, w1, .int 0]))] sz) [(h0, .inr (15, [v0, v1, v2, .ref a, v4, v5])), (a, .inr (4, [w0, w1, .int 0]))]) (va_A [(h0, .inr (15, [v0, v1, v2, .ref a, v4, v5])), (a, .inr (4, [w0, w1, .int 0]))] sz)) 0 0 (va_A [(h0, .inr (15, [v0, v1, v2, .ref a, v4, v5])), (a, .inr (4, [w0, w1, .int 0]))] sz) := by
  refine Met.ofW (cc := cX10_isNoRun) (maxL := 2) (ret := (some .boolean)) (by decide) rfl ?_
  intro p e s m args below meth c s₁ B hml hv
  obtain ⟨rfl, hsz, hP, hK, hD0⟩ := hv
  have hx := B.exec
  have hb := B.bytes
  have hr := B.returns
  have hts0 := atoms_spec (ws := (pw_ws yX10_isNoRun cX10_isNoRun 2 (some .boolean))) B.pre
  have hts : ∀ w ∈ pw_all, w.before _ s = true := fun w h => hts0 w (List.mem_cons_of_mem _ h)
  have hown : s.vm.findClass RX10 = some m.cls := findClass_of_methodNamed B.named
  have hlocks := B.notSynchronized
  subst hsz
  have hD := hD0.self (sz := s.heap.size)
  generalize hAe : va_A [(h0, .inr (15, [v0, v1, v2, .ref a, v4, v5])), (a, .inr (4, [w0, w1, .int 0]))] s.heap.size = A at hD ⊢
  have hA : ∀ q : Nat, s.heap.size ≤ q → A q := fun q h => by rw [← hAe]; exact Or.inr h
  have hS : va_S A s.heap s.heap [] := va_S.rf
  have hP : va_P (dC, dI) vwCl [(h0, .inr (15, [v0, v1, v2, .ref a, v4, v5])), (a, .inr (4, [w0, w1, .int 0]))] s.heap := hP
  have hl := lv_entry ([.ref h0, .int p0]) (n := 2) (Nat.le_of_ble_eq_true rfl)
  rw [lg_entry_eq]
  generalize (lg_sl ([.ref h0, .int p0]) ++ List.replicate (2 - (lg_sl ([.ref h0, .int p0])).length) Slot.unset).toArray = ls at hl ⊢
  have hl : lv_has ls 2 [(0, .ref h0), (1, .int p0)] := hl
  skip
  refine lv_iload_n hx hb dX10_isNoRun_0 rfl (lv_at hl 1 rfl) ?_
  refine lv_iconst (v := 0) hx hb dX10_isNoRun_1 (by decide) ?_
  refine lv_aload_n hx hb dX10_isNoRun_2 rfl (lv_at hl 0 rfl) ?_
  refine va_get (D := (dC, dI)) (ci := 15) (v := .ref a) (C := RX10) (T := TX10) (N := 6) hx hb hts inX10 hown hK hP 0 rfl rfl 3 (by decide) (hts _ q1228) (fun _ h9 => h9) rfl dX10_isNoRun_3 ?_
  have hPc := hP.sub (ws' := [(a, .inr (4, [w0, w1, .int 0]))]) [1] rfl
  have hDc := hD.sub (ws' := [(a, .inr (4, [w0, w1, .int 0]))]) [1] (by decide) rfl
  have hKc := hK.sub (tys' := []) [] rfl
  have hFc := va_free (wc := [(a, .inr (4, [w0, w1, .int 0]))]) hD hS hA [1] rfl
  refine va_calli (va_runV (As := []) (rest := [.int 0, .int p0]) ⟨hx, hb, hml, hown, hts⟩ (m_size l dC dI s.heap.size a w0 w1 0) (cwV 0 hts (pw_V q1252 q274 q275 q46 q276) rfl rfl rfl (by decide +kernel) ⟨(Nat.le_of_ble_eq_true rfl), (Nat.le_of_ble_eq_true rfl)⟩) ⟨fun a U g mk q => by obtain ⟨q0, q1, qP, qK, qD⟩ := q; exact ⟨q0, q1, qP, va_K.moved (u := U) (U := U.calling g mk a) (Vm.Alike.refl U.vm) qK, qD⟩, va_recv hKc hPc (ci := 4) (q0 := 0) rfl rfl, fun U hU hW => ⟨rfl, by rw [hU], by rw [hU]; exact hPc, va_K.moved hW.alike hKc, hDc.weaken (fun _ _ _ _ => trivial)⟩⟩ rfl rfl hl.1 rfl (lv_room (Nat.le_of_ble_eq_true rfl)) dX10_isNoRun_6 ⟨(Nat.le_of_ble_eq_true rfl), (Nat.le_of_ble_eq_true rfl)⟩) hS (fun q _ h => hFc q h) hFc (fun r_251 u t H1 locs ht hvm hw hB hz1 hk1 hS => ?_)
  obtain ⟨hP1, hK1, hD1⟩ := hB
  rw [ht] at hP1
  have hK1 := va_K.moved hvm.symm hK1
  obtain ⟨hP, hD⟩ := va_join (wr := [(h0, .inr (15, [v0, v1, v2, .ref a, v4, v5]))]) (w1 := [(a, .inr (4, [w0, w1, .int 0]))]) hP hD [1] [0] rfl rfl (by decide) (by decide) hk1 hFc hP1 hD1
  have hK := (hK.sub (tys' := []) [] rfl).app hK1
  generalize H1 = H at hP hS ⊢
  have hP : va_P (dC, dI) vwCl [(h0, .inr (15, [v0, v1, v2, .ref a, v4, v5])), (a, .inr (4, [w0, w1, .int 0]))] H := hP
  have hD : va_D A [(h0, .inr (15, [v0, v1, v2, .ref a, v4, v5])), (a, .inr (4, [w0, w1, .int 0]))] := hD
  have hK : va_K (dC, dI) vwCl [] s := hK
  refine W.widen (k := 0) (n := 0) (Nat.le_of_ble_eq_true rfl) (Nat.le_of_ble_eq_true rfl) ?_
  have hw : r_251 = 0 := hw
  subst hw
  refine lv_iconst (v := 1) hx hb dX10_isNoRun_9 (by decide) ?_
  refine lv_isub hx hb dX10_isNoRun_10 ?_
  refine lv_numI (v := (-1)) (by decide) ?_
  have hPc := hP.sub (ws' := []) [] rfl
  have hDc := hD.sub (ws' := []) [] (by decide) rfl
  have hKc := hK.sub (tys' := []) [] rfl
  have hFc := va_free (wc := []) hD hS hA [] rfl
  refine va_calli (va_runS (As := [.int p0, .int 0, .int (-1)]) (rest := []) ⟨hx, hb, hml, hown, hts⟩ (n_isIn0 l dC dI H.size p0 0 (-1) (pl_none p0)) (va_cwS 3 hts (pw_S q1299 q1300 q49 q1301) rfl rfl rfl (by decide +kernel) ⟨(Nat.le_of_ble_eq_true rfl), (Nat.le_of_ble_eq_true rfl)⟩) ⟨fun a U g mk q => by obtain ⟨q0, q1, qP, qK, qD⟩ := q; exact ⟨q0, q1, qP, va_K.moved (u := U) (U := U.calling g mk a) (Vm.Alike.refl U.vm) qK, qD⟩, fun U hU hW => ⟨rfl, by rw [hU], by rw [hU]; exact hPc, va_K.moved hW.alike hKc, hDc.weaken (fun _ _ _ _ => trivial)⟩⟩ rfl rfl hl.1 rfl (lv_room (Nat.le_of_ble_eq_true rfl)) dX10_isNoRun_11 ⟨(Nat.le_of_ble_eq_true rfl), (Nat.le_of_ble_eq_true rfl)⟩) hS (fun q _ h => hFc q h) hFc (fun r_252 u t H1 locs ht hvm hw hB hz1 hk1 hS => ?_)
  obtain ⟨hP1, hK1, hD1⟩ := hB
  rw [ht] at hP1
  have hK1 := va_K.moved hvm.symm hK1
  obtain ⟨hP, hD⟩ := va_join (wr := [(h0, .inr (15, [v0, v1, v2, .ref a, v4, v5])), (a, .inr (4, [w0, w1, .int 0]))]) (w1 := []) hP hD [] [0, 1] rfl rfl (by decide) (by decide) hk1 hFc hP1 hD1
  have hK := (hK.sub (tys' := []) [] rfl).app hK1
  generalize H1 = H at hP hS ⊢
  have hP : va_P (dC, dI) vwCl [(h0, .inr (15, [v0, v1, v2, .ref a, v4, v5])), (a, .inr (4, [w0, w1, .int 0]))] H := hP
  have hD : va_D A [(h0, .inr (15, [v0, v1, v2, .ref a, v4, v5])), (a, .inr (4, [w0, w1, .int 0]))] := hD
  have hK : va_K (dC, dI) vwCl [] s := hK
  refine W.widen (k := 0) (n := 0) (Nat.le_of_ble_eq_true rfl) (Nat.le_of_ble_eq_true rfl) ?_
  have hw : r_252 = 0 := hw
  subst hw
  refine lv_if_ne (tgt := 21) hx hb dX10_isNoRun_14 (by decide) (fun c_253 => absurd (by decide) c_253) (fun c_253 => ?_)
  refine lv_iconst (v := 1) hx hb dX10_isNoRun_17 (by decide) ?_
  refine lv_goto (tgt := 22) hx hb dX10_isNoRun_18 (by decide) ?_
  have hP9 := hP.sub (ws' := [(h0, .inr (15, [v0, v1, v2, .ref a, v4, v5])), (a, .inr (4, [w0, w1, .int 0]))]) [0, 1] rfl
  have hD9 := hD.sub (ws' := [(h0, .inr (15, [v0, v1, v2, .ref a, v4, v5])), (a, .inr (4, [w0, w1, .int 0]))]) [0, 1] (by decide) rfl
  have hK9 := hK.sub (tys' := []) [] rfl
  refine W.widen (k := 0) (n := 0) (Nat.le_of_ble_eq_true rfl) (Nat.le_of_ble_eq_true rfl) ?_
  exact W.zret (v := 1) hx hb hr (by decide) (fun t ht hW => ⟨⟨1, (), rfl, rfl, ⟨by rw [ht]; exact hP9, va_K.moved hW.alike hK9, hD9⟩⟩, hS.F ht⟩) hS.2.2 dX10_isNoRun_22
set_option maxHeartbeats 4000000 in
set_option maxRecDepth 100000 in
theorem n_isNoMass (l : Launch) (dC : Nat → ClassId) (dI : Nat → Nat → Nat) (sz : Nat) (h0 : Nat) (a : Nat) (v1 : Value) (v2 : Value) (v3 : Value) (v4 : Value) (v5 : Value) (w0 : Value) (w1 : Value) (p0 : Int32) (p1 : Int32) : Met l yX10_isNoMass (pw_ws yX10_isNoMass cX10_isNoMass 3 (some .boolean)) ({ frames := 3, cells := 0, slots := 0, locals := 63 } : Room) (va_Pc [.ref h0, .int p0, .int p1] (fun U => U.heap.size = sz ∧ va_P (dC, dI) vwCl [(h0, .inr (15, [.ref a, v1, v2, v3, v4, v5])), (a, .inr (4, [w0, w1, .int 0]))] U.heap ∧ va_K (dC, dI) vwCl [] U ∧ va_D (fun _ => True) [(h0, .inr (15, [.ref a, v1, v2, v3, v4, v5])), (a, .inr (4, [w0, w1, .int 0]))])) (va_Qi (fun (r : Int32) (_ : Unit) => r = 1) (fun (_ : Unit) (t : State) => va_P (dC, dI) vwCl [(h0, .inr (15, [.ref a, v1, v2, v3, v4, v5])), (a, .inr (4, [w0, w1, .int 0]))] t.heap ∧ va_K (dC, dI) vwCl [] t ∧ va_D (va_A [(h0, .inr (15, [.ref a, v1, v2, v3, v4, v5])), (a, .inr (4, [w0, w1, .int 0]))] sz) [(h0, .inr (15, [.ref a, v1, v2, v3, v4, v5])), (a, .inr (4, [w0, w1, .int 0]))]) (va_A [(h0, .inr (15, [.ref a, v1, v2, v3, v4, v5])), (a, .inr (4, [w0, w1, .int 0]))] sz)) 0 0 (va_A [(h0, .inr (15, [.ref a, v1, v2, v3, v4, v5])), (a, .inr (4, [w0, w1, .int 0]))] sz) := by
  refine Met.ofW (cc := cX10_isNoMass) (maxL := 3) (ret := (some .boolean)) (by decide) rfl ?_
  intro p e s m args below meth c s₁ B hml hv
  obtain ⟨rfl, hsz, hP, hK, hD0⟩ := hv
  have hx := B.exec
  have hb := B.bytes
  have hr := B.returns
  have hts0 := atoms_spec (ws := (pw_ws yX10_isNoMass cX10_isNoMass 3 (some .boolean))) B.pre
  have hts : ∀ w ∈ pw_all, w.before _ s = true := fun w h => hts0 w (List.mem_cons_of_mem _ h)
  have hown : s.vm.findClass RX10 = some m.cls := findClass_of_methodNamed B.named
  have hlocks := B.notSynchronized
  subst hsz
  have hD := hD0.self (sz := s.heap.size)
  generalize hAe : va_A [(h0, .inr (15, [.ref a, v1, v2, v3, v4, v5])), (a, .inr (4, [w0, w1, .int 0]))] s.heap.size = A at hD ⊢
  have hA : ∀ q : Nat, s.heap.size ≤ q → A q := fun q h => by rw [← hAe]; exact Or.inr h
  have hS : va_S A s.heap s.heap [] := va_S.rf
  have hP : va_P (dC, dI) vwCl [(h0, .inr (15, [.ref a, v1, v2, v3, v4, v5])), (a, .inr (4, [w0, w1, .int 0]))] s.heap := hP
  have hl := lv_entry ([.ref h0, .int p0, .int p1]) (n := 3) (Nat.le_of_ble_eq_true rfl)
  rw [lg_entry_eq]
  generalize (lg_sl ([.ref h0, .int p0, .int p1]) ++ List.replicate (3 - (lg_sl ([.ref h0, .int p0, .int p1])).length) Slot.unset).toArray = ls at hl ⊢
  have hl : lv_has ls 3 [(0, .ref h0), (1, .int p0), (2, .int p1)] := hl
  skip
  refine lv_aload_n hx hb dX10_isNoMass_0 rfl (lv_at hl 0 rfl) ?_
  refine lv_iload_n hx hb dX10_isNoMass_1 rfl (lv_at hl 1 rfl) ?_
  have hPc := hP.sub (ws' := [(h0, .inr (15, [.ref a, v1, v2, v3, v4, v5])), (a, .inr (4, [w0, w1, .int 0]))]) [0, 1] rfl
  have hDc := hD.sub (ws' := [(h0, .inr (15, [.ref a, v1, v2, v3, v4, v5])), (a, .inr (4, [w0, w1, .int 0]))]) [0, 1] (by decide) rfl
  have hKc := hK.sub (tys' := []) [] rfl
  have hFc := va_free (wc := [(h0, .inr (15, [.ref a, v1, v2, v3, v4, v5])), (a, .inr (4, [w0, w1, .int 0]))]) hD hS hA [0, 1] rfl
  refine va_calli (va_runV (As := [.int p0]) (rest := []) ⟨hx, hb, hml, hown, hts⟩ (n_isNoStructure l dC dI s.heap.size h0 a v1 v2 v3 v4 v5 w0 w1 p0) (cwV 1 hts (pw_V q1295 q1297 q20 q49 q1298) rfl rfl rfl (by decide +kernel) ⟨(Nat.le_of_ble_eq_true rfl), (Nat.le_of_ble_eq_true rfl)⟩) ⟨fun a U g mk q => by obtain ⟨q0, q1, qP, qK, qD⟩ := q; exact ⟨q0, q1, qP, va_K.moved (u := U) (U := U.calling g mk a) (Vm.Alike.refl U.vm) qK, qD⟩, va_recv hKc hPc (ci := 15) (q0 := 0) rfl rfl, fun U hU hW => ⟨rfl, by rw [hU], by rw [hU]; exact hPc, va_K.moved hW.alike hKc, hDc.weaken (fun _ _ _ _ => trivial)⟩⟩ rfl rfl hl.1 rfl (lv_room (Nat.le_of_ble_eq_true rfl)) dX10_isNoMass_2 ⟨(Nat.le_of_ble_eq_true rfl), (Nat.le_of_ble_eq_true rfl)⟩) hS (fun q _ h => hFc q h) hFc (fun r_254 u t H1 locs ht hvm hw hB hz1 hk1 hS => ?_)
  obtain ⟨hP1, hK1, hD1⟩ := hB
  rw [ht] at hP1
  have hK1 := va_K.moved hvm.symm hK1
  obtain ⟨hP, hD⟩ := va_join (wr := []) (w1 := [(h0, .inr (15, [.ref a, v1, v2, v3, v4, v5])), (a, .inr (4, [w0, w1, .int 0]))]) hP hD [0, 1] [] rfl rfl (by decide) (by decide) hk1 hFc hP1 hD1
  have hK := (hK.sub (tys' := []) [] rfl).app hK1
  generalize H1 = H at hP hS ⊢
  have hP : va_P (dC, dI) vwCl [(h0, .inr (15, [.ref a, v1, v2, v3, v4, v5])), (a, .inr (4, [w0, w1, .int 0]))] H := hP
  have hD : va_D A [(h0, .inr (15, [.ref a, v1, v2, v3, v4, v5])), (a, .inr (4, [w0, w1, .int 0]))] := hD
  have hK : va_K (dC, dI) vwCl [] s := hK
  refine W.widen (k := 0) (n := 0) (Nat.le_of_ble_eq_true rfl) (Nat.le_of_ble_eq_true rfl) ?_
  have hw : r_254 = 1 := hw
  subst hw
  refine lv_if_ne (tgt := 30) hx hb dX10_isNoMass_5 (by decide) (fun c_255 => ?_) (fun c_255 => absurd c_255 (by decide))
  refine lv_iconst (v := 1) hx hb dX10_isNoMass_30 (by decide) ?_
  refine lv_goto (tgt := 35) hx hb dX10_isNoMass_31 (by decide) ?_
  have hP9 := hP.sub (ws' := [(h0, .inr (15, [.ref a, v1, v2, v3, v4, v5])), (a, .inr (4, [w0, w1, .int 0]))]) [0, 1] rfl
  have hD9 := hD.sub (ws' := [(h0, .inr (15, [.ref a, v1, v2, v3, v4, v5])), (a, .inr (4, [w0, w1, .int 0]))]) [0, 1] (by decide) rfl
  have hK9 := hK.sub (tys' := []) [] rfl
  refine W.widen (k := 0) (n := 0) (Nat.le_of_ble_eq_true rfl) (Nat.le_of_ble_eq_true rfl) ?_
  exact W.zret (v := 1) hx hb hr (by decide) (fun t ht hW => ⟨⟨1, (), rfl, rfl, ⟨by rw [ht]; exact hP9, va_K.moved hW.alike hK9, hD9⟩⟩, hS.F ht⟩) hS.2.2 dX10_isNoMass_35
set_option maxHeartbeats 4000000 in
set_option maxRecDepth 100000 in
theorem n_isNoBandOf (l : Launch) (dC : Nat → ClassId) (dI : Nat → Nat → Nat) (sz : Nat) (h0 : Nat) (a : Nat) (v0 : Value) (v1 : Value) (v2 : Value) (v4 : Value) (w0 : Value) (w1 : Value) (th : Int32) (p0 : Int32) (p1 : Int32) : Met l yX10_isNoBandOf (pw_ws yX10_isNoBandOf cX10_isNoBandOf 3 (some .boolean)) ({ frames := 3, cells := 0, slots := 0, locals := 63 } : Room) (va_Pc [.ref h0, .int p0, .int p1] (fun U => U.heap.size = sz ∧ va_P (dC, dI) vwCl [(h0, .inr (15, [v0, v1, v2, .ref a, v4, .int th])), (a, .inr (4, [w0, w1, .int 0]))] U.heap ∧ va_K (dC, dI) vwCl [] U ∧ va_D (fun _ => True) [(h0, .inr (15, [v0, v1, v2, .ref a, v4, .int th])), (a, .inr (4, [w0, w1, .int 0]))])) (va_Qi (fun (r : Int32) (_ : Unit) => r = 1) (fun (_ : Unit) (t : State) => va_P (dC, dI) vwCl [(h0, .inr (15, [v0, v1, v2, .ref a, v4, .int 1])), (a, .inr (4, [w0, w1, .int 0]))] t.heap ∧ va_K (dC, dI) vwCl [] t ∧ va_D (va_A [(h0, .inr (15, [v0, v1, v2, .ref a, v4, .int th])), (a, .inr (4, [w0, w1, .int 0]))] sz) [(h0, .inr (15, [v0, v1, v2, .ref a, v4, .int 1])), (a, .inr (4, [w0, w1, .int 0]))]) (va_A [(h0, .inr (15, [v0, v1, v2, .ref a, v4, .int th])), (a, .inr (4, [w0, w1, .int 0]))] sz)) 0 0 (va_A [(h0, .inr (15, [v0, v1, v2, .ref a, v4, .int th])), (a, .inr (4, [w0, w1, .int 0]))] sz) := by
  refine Met.ofW (cc := cX10_isNoBandOf) (maxL := 3) (ret := (some .boolean)) (by decide) rfl ?_
  intro p e s m args below meth c s₁ B hml hv
  obtain ⟨rfl, hsz, hP, hK, hD0⟩ := hv
  have hx := B.exec
  have hb := B.bytes
  have hr := B.returns
  have hts0 := atoms_spec (ws := (pw_ws yX10_isNoBandOf cX10_isNoBandOf 3 (some .boolean))) B.pre
  have hts : ∀ w ∈ pw_all, w.before _ s = true := fun w h => hts0 w (List.mem_cons_of_mem _ h)
  have hown : s.vm.findClass RX10 = some m.cls := findClass_of_methodNamed B.named
  have hlocks := B.notSynchronized
  subst hsz
  have hD := hD0.self (sz := s.heap.size)
  generalize hAe : va_A [(h0, .inr (15, [v0, v1, v2, .ref a, v4, .int th])), (a, .inr (4, [w0, w1, .int 0]))] s.heap.size = A at hD ⊢
  have hA : ∀ q : Nat, s.heap.size ≤ q → A q := fun q h => by rw [← hAe]; exact Or.inr h
  have hS : va_S A s.heap s.heap [] := va_S.rf
  have hP : va_P (dC, dI) vwCl [(h0, .inr (15, [v0, v1, v2, .ref a, v4, .int th])), (a, .inr (4, [w0, w1, .int 0]))] s.heap := hP
  have hl := lv_entry ([.ref h0, .int p0, .int p1]) (n := 3) (Nat.le_of_ble_eq_true rfl)
  rw [lg_entry_eq]
  generalize (lg_sl ([.ref h0, .int p0, .int p1]) ++ List.replicate (3 - (lg_sl ([.ref h0, .int p0, .int p1])).length) Slot.unset).toArray = ls at hl ⊢
  have hl : lv_has ls 3 [(0, .ref h0), (1, .int p0), (2, .int p1)] := hl
  skip
  refine lv_aload_n hx hb dX10_isNoBandOf_0 rfl (lv_at hl 0 rfl) ?_
  refine lv_aload_n hx hb dX10_isNoBandOf_1 rfl (lv_at hl 0 rfl) ?_
  refine lv_iload_n hx hb dX10_isNoBandOf_2 rfl (lv_at hl 1 rfl) ?_
  have hPc := hP.sub (ws' := [(h0, .inr (15, [v0, v1, v2, .ref a, v4, .int th])), (a, .inr (4, [w0, w1, .int 0]))]) [0, 1] rfl
  have hDc := hD.sub (ws' := [(h0, .inr (15, [v0, v1, v2, .ref a, v4, .int th])), (a, .inr (4, [w0, w1, .int 0]))]) [0, 1] (by decide) rfl
  have hKc := hK.sub (tys' := []) [] rfl
  have hFc := va_free (wc := [(h0, .inr (15, [v0, v1, v2, .ref a, v4, .int th])), (a, .inr (4, [w0, w1, .int 0]))]) hD hS hA [0, 1] rfl
  refine va_calli (va_runV (As := [.int p0]) (rest := [.ref h0]) ⟨hx, hb, hml, hown, hts⟩ (n_isNoRun l dC dI s.heap.size h0 a v0 v1 v2 v4 (.int th) w0 w1 p0) (cwV 1 hts (pw_V q1518 q1520 q30 q49 q1521) rfl rfl rfl (by decide +kernel) ⟨(Nat.le_of_ble_eq_true rfl), (Nat.le_of_ble_eq_true rfl)⟩) ⟨fun a U g mk q => by obtain ⟨q0, q1, qP, qK, qD⟩ := q; exact ⟨q0, q1, qP, va_K.moved (u := U) (U := U.calling g mk a) (Vm.Alike.refl U.vm) qK, qD⟩, va_recv hKc hPc (ci := 15) (q0 := 0) rfl rfl, fun U hU hW => ⟨rfl, by rw [hU], by rw [hU]; exact hPc, va_K.moved hW.alike hKc, hDc.weaken (fun _ _ _ _ => trivial)⟩⟩ rfl rfl hl.1 rfl (lv_room (Nat.le_of_ble_eq_true rfl)) dX10_isNoBandOf_3 ⟨(Nat.le_of_ble_eq_true rfl), (Nat.le_of_ble_eq_true rfl)⟩) hS (fun q _ h => hFc q h) hFc (fun r_256 u t H1 locs ht hvm hw hB hz1 hk1 hS => ?_)
  obtain ⟨hP1, hK1, hD1⟩ := hB
  rw [ht] at hP1
  have hK1 := va_K.moved hvm.symm hK1
  obtain ⟨hP, hD⟩ := va_join (wr := []) (w1 := [(h0, .inr (15, [v0, v1, v2, .ref a, v4, .int th])), (a, .inr (4, [w0, w1, .int 0]))]) hP hD [0, 1] [] rfl rfl (by decide) (by decide) hk1 hFc hP1 hD1
  have hK := (hK.sub (tys' := []) [] rfl).app hK1
  generalize H1 = H at hP hS ⊢
  have hP : va_P (dC, dI) vwCl [(h0, .inr (15, [v0, v1, v2, .ref a, v4, .int th])), (a, .inr (4, [w0, w1, .int 0]))] H := hP
  have hD : va_D A [(h0, .inr (15, [v0, v1, v2, .ref a, v4, .int th])), (a, .inr (4, [w0, w1, .int 0]))] := hD
  have hK : va_K (dC, dI) vwCl [] s := hK
  refine W.widen (k := 0) (n := 0) (Nat.le_of_ble_eq_true rfl) (Nat.le_of_ble_eq_true rfl) ?_
  have hw : r_256 = 1 := hw
  subst hw
  refine lv_iconst (v := 1) hx hb dX10_isNoBandOf_6 (by decide) ?_
  have hPc := hP.sub (ws' := [(h0, .inr (15, [v0, v1, v2, .ref a, v4, .int th]))]) [0] rfl
  have hDc := hD.sub (ws' := [(h0, .inr (15, [v0, v1, v2, .ref a, v4, .int th]))]) [0] (by decide) rfl
  have hKc := hK.sub (tys' := []) [] rfl
  have hFc := va_free (wc := [(h0, .inr (15, [v0, v1, v2, .ref a, v4, .int th]))]) hD hS hA [0] rfl
  refine va_calli (va_runV (As := [.int 1, .int 1]) (rest := []) ⟨hx, hb, hml, hown, hts⟩ (n_isThrown1 l dC dI H.size h0 v0 v1 v2 (.ref a) v4 th 1) (cwV 2 hts (pw_V q1253 q1255 q19 q49 q1256) rfl rfl rfl (by decide +kernel) ⟨(Nat.le_of_ble_eq_true rfl), (Nat.le_of_ble_eq_true rfl)⟩) ⟨fun a U g mk q => by obtain ⟨q0, q1, qP, qK, qD⟩ := q; exact ⟨q0, q1, qP, va_K.moved (u := U) (U := U.calling g mk a) (Vm.Alike.refl U.vm) qK, qD⟩, va_recv hKc hPc (ci := 15) (q0 := 0) rfl rfl, fun U hU hW => ⟨rfl, by rw [hU], by rw [hU]; exact hPc, va_K.moved hW.alike hKc, hDc.weaken (fun _ _ _ _ => trivial)⟩⟩ rfl rfl hl.1 rfl (lv_room (Nat.le_of_ble_eq_true rfl)) dX10_isNoBandOf_7 ⟨(Nat.le_of_ble_eq_true rfl), (Nat.le_of_ble_eq_true rfl)⟩) hS (fun q _ h => hFc q h) hFc (fun r_257 u t H1 locs ht hvm hw hB hz1 hk1 hS => ?_)
  obtain ⟨hP1, hK1, hD1⟩ := hB
  rw [ht] at hP1
  have hK1 := va_K.moved hvm.symm hK1
  obtain ⟨hP, hD⟩ := va_join (wr := [(a, .inr (4, [w0, w1, .int 0]))]) (w1 := [(h0, .inr (15, [v0, v1, v2, .ref a, v4, .int 1]))]) hP hD [0] [1] rfl rfl (by decide) (by decide) hk1 hFc hP1 hD1
  have hK := (hK.sub (tys' := []) [] rfl).app hK1
  generalize H1 = H at hP hS ⊢
  have hP : va_P (dC, dI) vwCl [(a, .inr (4, [w0, w1, .int 0])), (h0, .inr (15, [v0, v1, v2, .ref a, v4, .int 1]))] H := hP
  have hD : va_D A [(a, .inr (4, [w0, w1, .int 0])), (h0, .inr (15, [v0, v1, v2, .ref a, v4, .int 1]))] := hD
  have hK : va_K (dC, dI) vwCl [] s := hK
  refine W.widen (k := 0) (n := 0) (Nat.le_of_ble_eq_true rfl) (Nat.le_of_ble_eq_true rfl) ?_
  have hw : r_257 = 1 := hw
  subst hw
  refine lv_if_ne (tgt := 25) hx hb dX10_isNoBandOf_10 (by decide) (fun c_258 => ?_) (fun c_258 => absurd c_258 (by decide))
  refine lv_iconst (v := 1) hx hb dX10_isNoBandOf_25 (by decide) ?_
  refine lv_goto (tgt := 30) hx hb dX10_isNoBandOf_26 (by decide) ?_
  have hP9 := hP.sub (ws' := [(h0, .inr (15, [v0, v1, v2, .ref a, v4, .int 1])), (a, .inr (4, [w0, w1, .int 0]))]) [1, 0] rfl
  have hD9 := hD.sub (ws' := [(h0, .inr (15, [v0, v1, v2, .ref a, v4, .int 1])), (a, .inr (4, [w0, w1, .int 0]))]) [1, 0] (by decide) rfl
  have hK9 := hK.sub (tys' := []) [] rfl
  refine W.widen (k := 0) (n := 0) (Nat.le_of_ble_eq_true rfl) (Nat.le_of_ble_eq_true rfl) ?_
  exact W.zret (v := 1) hx hb hr (by decide) (fun t ht hW => ⟨⟨1, (), rfl, rfl, ⟨by rw [ht]; exact hP9, va_K.moved hW.alike hK9, hD9⟩⟩, hS.F ht⟩) hS.2.2 dX10_isNoBandOf_30
