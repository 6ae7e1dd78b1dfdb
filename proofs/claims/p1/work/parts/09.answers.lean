set_option maxHeartbeats 4000000 in
set_option maxRecDepth 100000 in
theorem o_rangeOk (l : Launch) (dC : Nat → ClassId) (dI : Nat → Nat → Nat) (sz : Nat) (n : Int32) (lo : Int32) (hi : Int32) (h1 : ¬ n < lo) (h2 : n ≤ hi) : Met l yX6_checkRange (pw_ws yX6_checkRange cX6_checkRange 3 none) ({ frames := 1, cells := 0, slots := 0, locals := 20 } : Room) (va_Pc [.int n, .int lo, .int hi] (fun U => U.heap.size = sz ∧ va_P (dC, dI) vwCl [] U.heap ∧ va_K (dC, dI) vwCl [] U ∧ va_D (fun _ => True) [])) (va_Qv (fun (_ : Unit) => True) (fun (_ : Unit) (t : State) => va_P (dC, dI) vwCl [] t.heap ∧ va_K (dC, dI) vwCl [] t ∧ va_D (va_A [] sz) []) (va_A [] sz)) 0 0 (va_A [] sz) := by
  refine Met.ofW (cc := cX6_checkRange) (maxL := 3) (ret := none) (by decide) rfl ?_
  intro p e s m args below meth c s₁ B hml hv
  obtain ⟨rfl, hsz, hP, hK, hD0⟩ := hv
  have hx := B.exec
  have hb := B.bytes
  have hr := B.returns
  have hts0 := atoms_spec (ws := (pw_ws yX6_checkRange cX6_checkRange 3 none)) B.pre
  have hts : ∀ w ∈ pw_all, w.before _ s = true := fun w h => hts0 w (List.mem_cons_of_mem _ h)
  have hown : s.vm.findClass RX6 = some m.cls := findClass_of_methodNamed B.named
  have hlocks := B.notSynchronized
  subst hsz
  have hD := hD0.self (sz := s.heap.size)
  generalize hAe : va_A [] s.heap.size = A at hD ⊢
  have hA : ∀ q : Nat, s.heap.size ≤ q → A q := fun q h => by rw [← hAe]; exact Or.inr h
  have hS : va_S A s.heap s.heap [] := va_S.rf
  have hP : va_P (dC, dI) vwCl [] s.heap := hP
  have hl := lv_entry ([.int n, .int lo, .int hi]) (n := 3) (Nat.le_of_ble_eq_true rfl)
  rw [lg_entry_eq]
  generalize (lg_sl ([.int n, .int lo, .int hi]) ++ List.replicate (3 - (lg_sl ([.int n, .int lo, .int hi])).length) Slot.unset).toArray = ls at hl ⊢
  have hl : lv_has ls 3 [(0, .int n), (1, .int lo), (2, .int hi)] := hl
  skip
  refine lv_iload_n hx hb dX6_checkRange_0 rfl (lv_at hl 0 rfl) ?_
  refine lv_iload_n hx hb dX6_checkRange_1 rfl (lv_at hl 1 rfl) ?_
  refine lv_icmp_lt (tgt := 10) hx hb dX6_checkRange_2 (by decide) (fun c_137 => absurd c_137 h1) (fun c_137 => ?_)
  refine lv_iload_n hx hb dX6_checkRange_5 rfl (lv_at hl 0 rfl) ?_
  refine lv_iload_n hx hb dX6_checkRange_6 rfl (lv_at hl 2 rfl) ?_
  refine lv_icmp_le (tgt := 21) hx hb dX6_checkRange_7 (by decide) (fun c_138 => ?_) (fun c_138 => absurd h2 c_138)
  have hP9 := hP.sub (ws' := []) [] rfl
  have hD9 := hD.sub (ws' := []) [] (by decide) rfl
  have hK9 := hK.sub (tys' := []) [] rfl
  refine W.widen (k := 0) (n := 0) (Nat.le_of_ble_eq_true rfl) (Nat.le_of_ble_eq_true rfl) ?_
  exact W.vret hx hb hr (fun t ht hW => ⟨⟨(), rfl, trivial, ⟨by rw [ht]; exact hP9, va_K.moved hW.alike hK9, hD9⟩⟩, hS.F ht⟩) hS.2.2 dX6_checkRange_21
set_option maxHeartbeats 4000000 in
set_option maxRecDepth 100000 in
theorem o_rangeBad (l : Launch) (hl9 : l.stackTraces = false) (dC : Nat → ClassId) (dI : Nat → Nat → Nat) (sz : Nat) (ed : Nat) (n : Int32) (lo : Int32) (hi : Int32) (h1 : n < lo ∨ ¬ n ≤ hi) : vx_Met l yX6_checkRange (pw_ws yX6_checkRange cX6_checkRange 3 none) ({ frames := 6, cells := 1, slots := 6, locals := 100 } : Room) (va_Pc [.int n, .int lo, .int hi] (fun U => U.heap.size = sz ∧ va_P (dC, dI) vwCl [] U.heap ∧ va_K (dC, dI) vwCl [] U ∧ va_D (fun _ => True) [] ∧ pz ed (va_A [] sz) U U.heap)) (va_Qv (fun (_ : Unit) => False) (fun (_ : Unit) (_ : State) => True) (va_A [] sz)) (vx_X px_T (fun (E : String) (_ : Unit) (t : State) => E = "java/lang/IllegalArgumentException" ∧ va_P (dC, dI) vwCl [] t.heap ∧ va_K (dC, dI) vwCl [] t ∧ va_D (va_A [] sz) []) (va_A [] sz)) 1 6 (va_A [] sz) := by
  refine vx_ofW (cc := cX6_checkRange) (maxL := 3) (ret := none) (by decide) rfl ?_
  intro p e s m args below meth c s₁ B hml htab hv
  obtain ⟨rfl, hsz, hP, hK, hD0, hZ⟩ := hv
  have hx := B.exec
  have hb := B.bytes
  have hr := B.returns
  have hts0 := atoms_spec (ws := (pw_ws yX6_checkRange cX6_checkRange 3 none)) B.pre
  have hts : ∀ w ∈ pw_all, w.before _ s = true := fun w h => hts0 w (List.mem_cons_of_mem _ h)
  have hown : s.vm.findClass RX6 = some m.cls := findClass_of_methodNamed B.named
  have hlocks := B.notSynchronized
  subst hsz
  have hD := hD0.self (sz := s.heap.size)
  generalize hAe : va_A [] s.heap.size = A at hD hZ ⊢
  have hA : ∀ q : Nat, s.heap.size ≤ q → A q := fun q h => by rw [← hAe]; exact Or.inr h
  have hS : va_S A s.heap s.heap [] := va_S.rf
  have hP : va_P (dC, dI) vwCl [] s.heap := hP
  have hl := lv_entry ([.int n, .int lo, .int hi]) (n := 3) (Nat.le_of_ble_eq_true rfl)
  rw [lg_entry_eq]
  generalize (lg_sl ([.int n, .int lo, .int hi]) ++ List.replicate (3 - (lg_sl ([.int n, .int lo, .int hi])).length) Slot.unset).toArray = ls at hl ⊢
  have hl : lv_has ls 3 [(0, .int n), (1, .int lo), (2, .int hi)] := hl
  skip
  refine lv_iload_n hx hb dX6_checkRange_0 rfl (lv_at hl 0 rfl) ?_
  refine lv_iload_n hx hb dX6_checkRange_1 rfl (lv_at hl 1 rfl) ?_
  refine lv_icmp_lt (tgt := 10) hx hb dX6_checkRange_2 (by decide) (fun c_139 => ?_) (fun c_139 => ?_)
  · skip
    have hP9 := hP.sub (ws' := []) [] rfl
    have hD9 := hD.sub (ws' := []) [] (by decide) rfl
    have hK9 := hK.sub (tys' := []) [] rfl
    obtain ⟨sa, hstr⟩ := hZ.str (own := "Shakerhall") (k := 401) (tx := "a number is out of range") (by decide)
    exact vx_throwSW (own := RX6) (cls := "java/lang/IllegalArgumentException") (names := ["java/lang/RuntimeException", "java/lang/Exception"]) hx hb hl9 hown (by decide +kernel) (by decide +kernel) (hts _ q531) (hts _ q63) hstr (vx_hat (L := vx_atS RX6 163 "java/lang/IllegalArgumentException" ["java/lang/RuntimeException", "java/lang/Exception"]) (B := [.castable "java/lang/IllegalArgumentException" "java/lang/IllegalArgumentException", .declares ⟨"java/lang/RuntimeException", "<init>", "(Ljava/lang/String;)V"⟩, .declares ⟨"java/lang/Exception", "<init>", "(Ljava/lang/String;)V"⟩, .declares ⟨"java/lang/Throwable", "<init>", "(Ljava/lang/String;)V"⟩]) (fun w hw => hts w (at_RX6_163 w hw)) (by decide +kernel) (vx_c (hZ.cast (by decide)) (vx_c (hZ.decl (by decide)) (vx_c (hZ.decl (by decide)) (vx_c (hZ.decl (by decide)) vx_n))))) (by decide +kernel) hZ.1 hZ.2.1 hS (hl.1.trans hml.symm) dX6_checkRange_10 dX6_checkRange_13 dX6_checkRange_14 dX6_checkRange_17 dX6_checkRange_20 (fun x hx => (htab x hx).elim) (Nat.le_of_ble_eq_true rfl) (Nat.le_of_ble_eq_true rfl) (Nat.le_of_ble_eq_true rfl) (Nat.le_of_ble_eq_true rfl) hlocks (fun t ha hsz hk => ⟨(), trivial, ⟨rfl, hP9.kept (fun k q hq => hk q.1 (hP9 k q hq).lt), va_K.moved ha hK9, hD9⟩, Nat.le_trans hS.1 hsz, fun q h1 h2 => (hk q (Nat.lt_of_lt_of_le h1 hS.1)).trans (hS.2.1 q h1 h2)⟩) hS.2.2 (Nat.le_of_ble_eq_true rfl) (Nat.le_of_ble_eq_true rfl)
  · skip
    refine lv_iload_n hx hb dX6_checkRange_5 rfl (lv_at hl 0 rfl) ?_
    refine lv_iload_n hx hb dX6_checkRange_6 rfl (lv_at hl 2 rfl) ?_
    refine lv_icmp_le (tgt := 21) hx hb dX6_checkRange_7 (by decide) (fun c_140 => absurd c_140 (h1.resolve_left c_139)) (fun c_140 => ?_)
    have hP9 := hP.sub (ws' := []) [] rfl
    have hD9 := hD.sub (ws' := []) [] (by decide) rfl
    have hK9 := hK.sub (tys' := []) [] rfl
    obtain ⟨sa, hstr⟩ := hZ.str (own := "Shakerhall") (k := 401) (tx := "a number is out of range") (by decide)
    exact vx_throwSW (own := RX6) (cls := "java/lang/IllegalArgumentException") (names := ["java/lang/RuntimeException", "java/lang/Exception"]) hx hb hl9 hown (by decide +kernel) (by decide +kernel) (hts _ q531) (hts _ q63) hstr (vx_hat (L := vx_atS RX6 163 "java/lang/IllegalArgumentException" ["java/lang/RuntimeException", "java/lang/Exception"]) (B := [.castable "java/lang/IllegalArgumentException" "java/lang/IllegalArgumentException", .declares ⟨"java/lang/RuntimeException", "<init>", "(Ljava/lang/String;)V"⟩, .declares ⟨"java/lang/Exception", "<init>", "(Ljava/lang/String;)V"⟩, .declares ⟨"java/lang/Throwable", "<init>", "(Ljava/lang/String;)V"⟩]) (fun w hw => hts w (at_RX6_163 w hw)) (by decide +kernel) (vx_c (hZ.cast (by decide)) (vx_c (hZ.decl (by decide)) (vx_c (hZ.decl (by decide)) (vx_c (hZ.decl (by decide)) vx_n))))) (by decide +kernel) hZ.1 hZ.2.1 hS (hl.1.trans hml.symm) dX6_checkRange_10 dX6_checkRange_13 dX6_checkRange_14 dX6_checkRange_17 dX6_checkRange_20 (fun x hx => (htab x hx).elim) (Nat.le_of_ble_eq_true rfl) (Nat.le_of_ble_eq_true rfl) (Nat.le_of_ble_eq_true rfl) (Nat.le_of_ble_eq_true rfl) hlocks (fun t ha hsz hk => ⟨(), trivial, ⟨rfl, hP9.kept (fun k q hq => hk q.1 (hP9 k q hq).lt), va_K.moved ha hK9, hD9⟩, Nat.le_trans hS.1 hsz, fun q h1 h2 => (hk q (Nat.lt_of_lt_of_le h1 hS.1)).trans (hS.2.1 q h1 h2)⟩) hS.2.2 (Nat.le_of_ble_eq_true rfl) (Nat.le_of_ble_eq_true rfl)
set_option maxHeartbeats 4000000 in
set_option maxRecDepth 100000 in
theorem o_periodOk (l : Launch) (dC : Nat → ClassId) (dI : Nat → Nat → Nat) (sz : Nat) (n : Int32) (h1 : ¬ n < 4) (h2 : n ≤ 64) : Met l yX6_checkPeriod (pw_ws yX6_checkPeriod cX6_checkPeriod 1 none) ({ frames := 2, cells := 0, slots := 0, locals := 42 } : Room) (va_Pc [.int n] (fun U => U.heap.size = sz ∧ va_P (dC, dI) vwCl [] U.heap ∧ va_K (dC, dI) vwCl [] U ∧ va_D (fun _ => True) [])) (va_Qv (fun (_ : Unit) => True) (fun (_ : Unit) (t : State) => va_P (dC, dI) vwCl [] t.heap ∧ va_K (dC, dI) vwCl [] t ∧ va_D (va_A [] sz) []) (va_A [] sz)) 0 0 (va_A [] sz) := by
  refine Met.ofW (cc := cX6_checkPeriod) (maxL := 1) (ret := none) (by decide) rfl ?_
  intro p e s m args below meth c s₁ B hml hv
  obtain ⟨rfl, hsz, hP, hK, hD0⟩ := hv
  have hx := B.exec
  have hb := B.bytes
  have hr := B.returns
  have hts0 := atoms_spec (ws := (pw_ws yX6_checkPeriod cX6_checkPeriod 1 none)) B.pre
  have hts : ∀ w ∈ pw_all, w.before _ s = true := fun w h => hts0 w (List.mem_cons_of_mem _ h)
  have hown : s.vm.findClass RX6 = some m.cls := findClass_of_methodNamed B.named
  have hlocks := B.notSynchronized
  subst hsz
  have hD := hD0.self (sz := s.heap.size)
  generalize hAe : va_A [] s.heap.size = A at hD ⊢
  have hA : ∀ q : Nat, s.heap.size ≤ q → A q := fun q h => by rw [← hAe]; exact Or.inr h
  have hS : va_S A s.heap s.heap [] := va_S.rf
  have hP : va_P (dC, dI) vwCl [] s.heap := hP
  have hl := lv_entry ([.int n]) (n := 1) (Nat.le_of_ble_eq_true rfl)
  rw [lg_entry_eq]
  generalize (lg_sl ([.int n]) ++ List.replicate (1 - (lg_sl ([.int n])).length) Slot.unset).toArray = ls at hl ⊢
  have hl : lv_has ls 1 [(0, .int n)] := hl
  skip
  refine lv_iload_n hx hb dX6_checkPeriod_0 rfl (lv_at hl 0 rfl) ?_
  refine lv_iconst (v := 4) hx hb dX6_checkPeriod_1 (by decide) ?_
  refine lv_bipush (v := 64) hx hb dX6_checkPeriod_2 (by decide) ?_
  have hPc := hP.sub (ws' := []) [] rfl
  have hDc := hD.sub (ws' := []) [] (by decide) rfl
  have hKc := hK.sub (tys' := []) [] rfl
  have hFc := va_free (wc := []) hD hS hA [] rfl
  refine va_callv (va_runS (As := [.int n, .int 4, .int 64]) (rest := []) ⟨hx, hb, hml, hown, hts⟩ (o_rangeOk l dC dI s.heap.size n 4 64 h1 h2) (va_cwS 3 hts (pw_S q528 q529 q43 q530) rfl rfl rfl (by decide +kernel) ⟨(Nat.le_of_ble_eq_true rfl), (Nat.le_of_ble_eq_true rfl)⟩) ⟨fun a U g mk q => by obtain ⟨q0, q1, qP, qK, qD⟩ := q; exact ⟨q0, q1, qP, va_K.moved (u := U) (U := U.calling g mk a) (Vm.Alike.refl U.vm) qK, qD⟩, fun U hU hW => ⟨rfl, by rw [hU], by rw [hU]; exact hPc, va_K.moved hW.alike hKc, hDc.weaken (fun _ _ _ _ => trivial)⟩⟩ rfl rfl hl.1 rfl (lv_room (Nat.le_of_ble_eq_true rfl)) dX6_checkPeriod_4 ⟨(Nat.le_of_ble_eq_true rfl), (Nat.le_of_ble_eq_true rfl)⟩) hS (fun q _ h => hFc q h) hFc (fun u t H1 locs ht hvm hw hB hz1 hk1 hS => ?_)
  obtain ⟨hP1, hK1, hD1⟩ := hB
  rw [ht] at hP1
  have hK1 := va_K.moved hvm.symm hK1
  obtain ⟨hP, hD⟩ := va_join (wr := []) (w1 := []) hP hD [] [] rfl rfl (by decide) (by decide) hk1 hFc hP1 hD1
  have hK := (hK.sub (tys' := []) [] rfl).app hK1
  generalize H1 = H at hP hS ⊢
  have hP : va_P (dC, dI) vwCl [] H := hP
  have hD : va_D A [] := hD
  have hK : va_K (dC, dI) vwCl [] s := hK
  refine W.widen (k := 0) (n := 0) (Nat.le_of_ble_eq_true rfl) (Nat.le_of_ble_eq_true rfl) ?_
  have hP9 := hP.sub (ws' := []) [] rfl
  have hD9 := hD.sub (ws' := []) [] (by decide) rfl
  have hK9 := hK.sub (tys' := []) [] rfl
  refine W.widen (k := 0) (n := 0) (Nat.le_of_ble_eq_true rfl) (Nat.le_of_ble_eq_true rfl) ?_
  exact W.vret hx hb hr (fun t ht hW => ⟨⟨(), rfl, trivial, ⟨by rw [ht]; exact hP9, va_K.moved hW.alike hK9, hD9⟩⟩, hS.F ht⟩) hS.2.2 dX6_checkPeriod_7
set_option maxHeartbeats 4000000 in
set_option maxRecDepth 100000 in
theorem o_periodBad (l : Launch) (hl9 : l.stackTraces = false) (dC : Nat → ClassId) (dI : Nat → Nat → Nat) (sz : Nat) (ed : Nat) (n : Int32) (h1 : n < 4 ∨ ¬ n ≤ 64) : vx_Met l yX6_checkPeriod (pw_ws yX6_checkPeriod cX6_checkPeriod 1 none) ({ frames := 7, cells := 1, slots := 6, locals := 122 } : Room) (va_Pc [.int n] (fun U => U.heap.size = sz ∧ va_P (dC, dI) vwCl [] U.heap ∧ va_K (dC, dI) vwCl [] U ∧ va_D (fun _ => True) [] ∧ pz ed (va_A [] sz) U U.heap)) (va_Qv (fun (_ : Unit) => False) (fun (_ : Unit) (_ : State) => True) (va_A [] sz)) (vx_X px_T (fun (E : String) (_ : Unit) (t : State) => E = "java/lang/IllegalArgumentException" ∧ va_P (dC, dI) vwCl [] t.heap ∧ va_K (dC, dI) vwCl [] t ∧ va_D (va_A [] sz) []) (va_A [] sz)) 1 6 (va_A [] sz) := by
  refine vx_ofW (cc := cX6_checkPeriod) (maxL := 1) (ret := none) (by decide) rfl ?_
  intro p e s m args below meth c s₁ B hml htab hv
  obtain ⟨rfl, hsz, hP, hK, hD0, hZ⟩ := hv
  have hx := B.exec
  have hb := B.bytes
  have hr := B.returns
  have hts0 := atoms_spec (ws := (pw_ws yX6_checkPeriod cX6_checkPeriod 1 none)) B.pre
  have hts : ∀ w ∈ pw_all, w.before _ s = true := fun w h => hts0 w (List.mem_cons_of_mem _ h)
  have hown : s.vm.findClass RX6 = some m.cls := findClass_of_methodNamed B.named
  have hlocks := B.notSynchronized
  subst hsz
  have hD := hD0.self (sz := s.heap.size)
  generalize hAe : va_A [] s.heap.size = A at hD hZ ⊢
  have hA : ∀ q : Nat, s.heap.size ≤ q → A q := fun q h => by rw [← hAe]; exact Or.inr h
  have hS : va_S A s.heap s.heap [] := va_S.rf
  have hP : va_P (dC, dI) vwCl [] s.heap := hP
  have hl := lv_entry ([.int n]) (n := 1) (Nat.le_of_ble_eq_true rfl)
  rw [lg_entry_eq]
  generalize (lg_sl ([.int n]) ++ List.replicate (1 - (lg_sl ([.int n])).length) Slot.unset).toArray = ls at hl ⊢
  have hl : lv_has ls 1 [(0, .int n)] := hl
  skip
  refine lv_iload_n hx hb dX6_checkPeriod_0 rfl (lv_at hl 0 rfl) ?_
  refine lv_iconst (v := 4) hx hb dX6_checkPeriod_1 (by decide) ?_
  refine lv_bipush (v := 64) hx hb dX6_checkPeriod_2 (by decide) ?_
  have hPc := hP.sub (ws' := []) [] rfl
  have hDc := hD.sub (ws' := []) [] (by decide) rfl
  have hKc := hK.sub (tys' := []) [] rfl
  have hFc := va_free (wc := []) hD hS hA [] rfl
  refine vx_callv (vx_runS (As := [.int n, .int 4, .int 64]) (rest := []) ⟨hx, hb, hml, hown, hts⟩ (o_rangeBad l hl9 dC dI s.heap.size ed n 4 64 h1) (va_cwS 3 hts (pw_S q528 q529 q43 q530) rfl rfl rfl (by decide +kernel) ⟨(Nat.le_of_ble_eq_true rfl), (Nat.le_of_ble_eq_true rfl)⟩) ⟨fun a U g mk q => by obtain ⟨q0, q1, qP, qK, qD, qZ⟩ := q; exact ⟨q0, q1, qP, va_K.moved (u := U) (U := U.calling g mk a) (Vm.Alike.refl U.vm) qK, qD, qZ.same rfl⟩, fun U hU hW => ⟨rfl, by rw [hU], by rw [hU]; exact hPc, va_K.moved hW.alike hKc, hDc.weaken (fun _ _ _ _ => trivial), hZ.call hS hFc hU hW⟩⟩ rfl rfl hl.1 rfl (lv_room (Nat.le_of_ble_eq_true rfl)) dX6_checkPeriod_4 ⟨(Nat.le_of_ble_eq_true rfl), (Nat.le_of_ble_eq_true rfl)⟩) hS (fun q _ h => hFc q h) hFc (fun q _ h => hFc q h) (fun E ce q9 u t H1 locs ht hvm hw hB hz1 hk1 hS hce hcv hcl => ?_) (fun u t H1 locs ht hvm hw hB hz1 hk1 hS => hw.elim)
  obtain ⟨rfl, hP1, hK1, hD1⟩ := hB
  rw [ht] at hP1
  have hK1 := va_K.moved hvm.symm hK1
  obtain ⟨hP, hD⟩ := va_join (wr := []) (w1 := []) hP hD [] [] rfl rfl (by decide) (by decide) hk1 hFc hP1 hD1
  have hK := (hK.sub (tys' := []) [] rfl).app hK1
  generalize H1 = H at hP hS hce ⊢
  have hP : va_P (dC, dI) vwCl [] H := hP
  have hD : va_D A [] := hD
  have hK : va_K (dC, dI) vwCl [] s := hK
  have hP9 := hP.sub (ws' := []) [] rfl
  have hD9 := hD.sub (ws' := []) [] (by decide) rfl
  have hK9 := hK.sub (tys' := []) [] rfl
  exact vx_out (fun x hx => (htab x hx).elim) hlocks hce hcv hcl (fun t ht ha => ⟨(), trivial, ⟨rfl, by rw [ht]; exact hP9, va_K.moved ha hK9, hD9⟩, hS.F ht⟩) hS.2.2 (Nat.le_of_ble_eq_true rfl) (Nat.le_of_ble_eq_true rfl)
set_option maxHeartbeats 4000000 in
set_option maxRecDepth 100000 in
theorem o_checkTyped (l : Launch) (hl9 : l.stackTraces = false) (dC : Nat → ClassId) (dI : Nat → Nat → Nat) (sz : Nat) (ed : Nat) (h0 : Nat) (v0 : Value) (v1 : Value) (v2 : Value) (v3 : Value) (v4 : Value) (v6 : Value) (v7 : Value) : vx_Met l yX6_checkTyped (pw_ws yX6_checkTyped cX6_checkTyped 1 none) ({ frames := 6, cells := 1, slots := 6, locals := 100 } : Room) (va_Pc [.ref h0] (fun U => U.heap.size = sz ∧ va_P (dC, dI) vwCl [(h0, .inr (11, [v0, v1, v2, v3, v4, .int 0, v6, v7]))] U.heap ∧ va_K (dC, dI) vwCl [] U ∧ va_D (fun _ => True) [(h0, .inr (11, [v0, v1, v2, v3, v4, .int 0, v6, v7]))] ∧ pz ed (va_A [(h0, .inr (11, [v0, v1, v2, v3, v4, .int 0, v6, v7]))] sz) U U.heap)) (va_Qv (fun (_ : Unit) => False) (fun (_ : Unit) (_ : State) => True) (va_A [(h0, .inr (11, [v0, v1, v2, v3, v4, .int 0, v6, v7]))] sz)) (vx_X px_T (fun (E : String) (_ : Unit) (t : State) => E = "java/lang/UnsupportedOperationException" ∧ va_P (dC, dI) vwCl [(h0, .inr (11, [v0, v1, v2, v3, v4, .int 0, v6, v7]))] t.heap ∧ va_K (dC, dI) vwCl [] t ∧ va_D (va_A [(h0, .inr (11, [v0, v1, v2, v3, v4, .int 0, v6, v7]))] sz) [(h0, .inr (11, [v0, v1, v2, v3, v4, .int 0, v6, v7]))]) (va_A [(h0, .inr (11, [v0, v1, v2, v3, v4, .int 0, v6, v7]))] sz)) 1 6 (va_A [(h0, .inr (11, [v0, v1, v2, v3, v4, .int 0, v6, v7]))] sz) := by
  refine vx_ofW (cc := cX6_checkTyped) (maxL := 1) (ret := none) (by decide) rfl ?_
  intro p e s m args below meth c s₁ B hml htab hv
  obtain ⟨rfl, hsz, hP, hK, hD0, hZ⟩ := hv
  have hx := B.exec
  have hb := B.bytes
  have hr := B.returns
  have hts0 := atoms_spec (ws := (pw_ws yX6_checkTyped cX6_checkTyped 1 none)) B.pre
  have hts : ∀ w ∈ pw_all, w.before _ s = true := fun w h => hts0 w (List.mem_cons_of_mem _ h)
  have hown : s.vm.findClass RX6 = some m.cls := findClass_of_methodNamed B.named
  have hlocks := B.notSynchronized
  subst hsz
  have hD := hD0.self (sz := s.heap.size)
  generalize hAe : va_A [(h0, .inr (11, [v0, v1, v2, v3, v4, .int 0, v6, v7]))] s.heap.size = A at hD hZ ⊢
  have hA : ∀ q : Nat, s.heap.size ≤ q → A q := fun q h => by rw [← hAe]; exact Or.inr h
  have hS : va_S A s.heap s.heap [] := va_S.rf
  have hP : va_P (dC, dI) vwCl [(h0, .inr (11, [v0, v1, v2, v3, v4, .int 0, v6, v7]))] s.heap := hP
  have hl := lv_entry ([.ref h0]) (n := 1) (Nat.le_of_ble_eq_true rfl)
  rw [lg_entry_eq]
  generalize (lg_sl ([.ref h0]) ++ List.replicate (1 - (lg_sl ([.ref h0])).length) Slot.unset).toArray = ls at hl ⊢
  have hl : lv_has ls 1 [(0, .ref h0)] := hl
  skip
  refine lv_aload_n hx hb dX6_checkTyped_0 rfl (lv_at hl 0 rfl) ?_
  refine va_get (D := (dC, dI)) (ci := 11) (v := .int 0) (C := RX6) (T := TX6) (N := 8) hx hb hts inX6 hown hK hP 0 rfl rfl 5 (by decide) (hts _ q198) (fun _ h9 => h9) rfl dX6_checkTyped_1 ?_
  refine lv_iconst (v := 1) hx hb dX6_checkTyped_4 (by decide) ?_
  refine lv_icmp_ge (tgt := 19) hx hb dX6_checkTyped_5 (by decide) (fun c_143 => absurd c_143 (by decide)) (fun c_143 => ?_)
  have hP9 := hP.sub (ws' := [(h0, .inr (11, [v0, v1, v2, v3, v4, .int 0, v6, v7]))]) [0] rfl
  have hD9 := hD.sub (ws' := [(h0, .inr (11, [v0, v1, v2, v3, v4, .int 0, v6, v7]))]) [0] (by decide) rfl
  have hK9 := hK.sub (tys' := []) [] rfl
  obtain ⟨sa, hstr⟩ := hZ.str (own := "Shakerhall") (k := 407) (tx := "nothing is typed") (by decide)
  exact vx_throwSW (own := RX6) (cls := "java/lang/UnsupportedOperationException") (names := ["java/lang/RuntimeException", "java/lang/Exception"]) hx hb hl9 hown (by decide +kernel) (by decide +kernel) (hts _ q626) (hts _ q65) hstr (vx_hat (L := vx_atS RX6 184 "java/lang/UnsupportedOperationException" ["java/lang/RuntimeException", "java/lang/Exception"]) (B := [.castable "java/lang/UnsupportedOperationException" "java/lang/UnsupportedOperationException", .declares ⟨"java/lang/RuntimeException", "<init>", "(Ljava/lang/String;)V"⟩, .declares ⟨"java/lang/Exception", "<init>", "(Ljava/lang/String;)V"⟩, .declares ⟨"java/lang/Throwable", "<init>", "(Ljava/lang/String;)V"⟩]) (fun w hw => hts w (at_RX6_184 w hw)) (by decide +kernel) (vx_c (hZ.cast (by decide)) (vx_c (hZ.decl (by decide)) (vx_c (hZ.decl (by decide)) (vx_c (hZ.decl (by decide)) vx_n))))) (by decide +kernel) hZ.1 hZ.2.1 hS (hl.1.trans hml.symm) dX6_checkTyped_8 dX6_checkTyped_11 dX6_checkTyped_12 dX6_checkTyped_15 dX6_checkTyped_18 (fun x hx => (htab x hx).elim) (Nat.le_of_ble_eq_true rfl) (Nat.le_of_ble_eq_true rfl) (Nat.le_of_ble_eq_true rfl) (Nat.le_of_ble_eq_true rfl) hlocks (fun t ha hsz hk => ⟨(), trivial, ⟨rfl, hP9.kept (fun k q hq => hk q.1 (hP9 k q hq).lt), va_K.moved ha hK9, hD9⟩, Nat.le_trans hS.1 hsz, fun q h1 h2 => (hk q (Nat.lt_of_lt_of_le h1 hS.1)).trans (hS.2.1 q h1 h2)⟩) hS.2.2 (Nat.le_of_ble_eq_true rfl) (Nat.le_of_ble_eq_true rfl)
set_option maxHeartbeats 4000000 in
set_option maxRecDepth 100000 in
theorem o_addStructure (l : Launch) (dC : Nat → ClassId) (dI : Nat → Nat → Nat) (sz : Nat) (ed : Nat) (h0 : Nat) (a : Nat) (v1 : Value) (v2 : Value) (v3 : Value) (v4 : Value) (v5 : Value) (v6 : Value) (v7 : Value) (m0 : Int32) : Met l yX6_addStructure (pw_ws yX6_addStructure cX6_addStructure 1 (some .int)) ({ frames := 5, cells := 13, slots := 72, locals := 107 } : Room) (va_Pc [.ref h0] (fun U => U.heap.size = sz ∧ va_P (dC, dI) vwCl [(h0, .inr (11, [.ref a, v1, v2, v3, v4, v5, v6, v7])), (a, .inr (4, [.int m0, .ref ed, .int 0]))] U.heap ∧ va_K (dC, dI) vwCl [] U ∧ va_D (fun _ => True) [(h0, .inr (11, [.ref a, v1, v2, v3, v4, v5, v6, v7])), (a, .inr (4, [.int m0, .ref ed, .int 0]))] ∧ pz ed (va_A [(h0, .inr (11, [.ref a, v1, v2, v3, v4, v5, v6, v7])), (a, .inr (4, [.int m0, .ref ed, .int 0]))] sz) U U.heap)) (va_Qi (fun (r : Int32) (_ : Unit) => r = 0) (fun (_ : Unit) (t : State) => ∃ (qb : Nat), va_P (dC, dI) vwCl [(h0, .inr (11, [.ref a, v1, v2, v3, v4, v5, v6, v7])), (a, .inr (4, [.int (m0 + 1), .ref qb, .int 1]))] t.heap ∧ va_K (dC, dI) vwCl [] t ∧ va_D (va_A [(h0, .inr (11, [.ref a, v1, v2, v3, v4, v5, v6, v7])), (a, .inr (4, [.int m0, .ref ed, .int 0]))] sz) [(h0, .inr (11, [.ref a, v1, v2, v3, v4, v5, v6, v7])), (a, .inr (4, [.int (m0 + 1), .ref qb, .int 1]))]) (va_A [(h0, .inr (11, [.ref a, v1, v2, v3, v4, v5, v6, v7])), (a, .inr (4, [.int m0, .ref ed, .int 0]))] sz)) 13 72 (va_A [(h0, .inr (11, [.ref a, v1, v2, v3, v4, v5, v6, v7])), (a, .inr (4, [.int m0, .ref ed, .int 0]))] sz) := by
  refine Met.ofW (cc := cX6_addStructure) (maxL := 1) (ret := (some .int)) (by decide) rfl ?_
  intro p e s m args below meth c s₁ B hml hv
  obtain ⟨rfl, hsz, hP, hK, hD0, hZ⟩ := hv
  have hx := B.exec
  have hb := B.bytes
  have hr := B.returns
  have hts0 := atoms_spec (ws := (pw_ws yX6_addStructure cX6_addStructure 1 (some .int))) B.pre
  have hts : ∀ w ∈ pw_all, w.before _ s = true := fun w h => hts0 w (List.mem_cons_of_mem _ h)
  have hown : s.vm.findClass RX6 = some m.cls := findClass_of_methodNamed B.named
  have hlocks := B.notSynchronized
  subst hsz
  have hD := hD0.self (sz := s.heap.size)
  generalize hAe : va_A [(h0, .inr (11, [.ref a, v1, v2, v3, v4, v5, v6, v7])), (a, .inr (4, [.int m0, .ref ed, .int 0]))] s.heap.size = A at hD hZ ⊢
  have hA : ∀ q : Nat, s.heap.size ≤ q → A q := fun q h => by rw [← hAe]; exact Or.inr h
  have hS : va_S A s.heap s.heap [] := va_S.rf
  have hP : va_P (dC, dI) vwCl [(h0, .inr (11, [.ref a, v1, v2, v3, v4, v5, v6, v7])), (a, .inr (4, [.int m0, .ref ed, .int 0]))] s.heap := hP
  have hl := lv_entry ([.ref h0]) (n := 1) (Nat.le_of_ble_eq_true rfl)
  rw [lg_entry_eq]
  generalize (lg_sl ([.ref h0]) ++ List.replicate (1 - (lg_sl ([.ref h0])).length) Slot.unset).toArray = ls at hl ⊢
  have hl : lv_has ls 1 [(0, .ref h0)] := hl
  skip
  refine lv_aload_n hx hb dX6_addStructure_0 rfl (lv_at hl 0 rfl) ?_
  refine va_get (D := (dC, dI)) (ci := 11) (v := .ref a) (C := RX6) (T := TX6) (N := 8) hx hb hts inX6 hown hK hP 0 rfl rfl 0 (by decide) (hts _ q193) (fun _ h9 => h9) rfl dX6_addStructure_1 ?_
  have hPc := hP.sub (ws' := [(a, .inr (4, [.int m0, .ref ed, .int 0]))]) [1] rfl
  have hDc := hD.sub (ws' := [(a, .inr (4, [.int m0, .ref ed, .int 0]))]) [1] (by decide) rfl
  have hKc := hK.sub (tys' := []) [] rfl
  have hFc := va_free (wc := [(a, .inr (4, [.int m0, .ref ed, .int 0]))]) hD hS hA [1] rfl
  refine va_calli (va_runV (As := []) (rest := []) ⟨hx, hb, hml, hown, hts⟩ (m_size l dC dI s.heap.size a (.int m0) (.ref ed) 0) (cwV 0 hts (pw_V q273 q274 q275 q46 q276) rfl rfl rfl (by decide +kernel) ⟨(Nat.le_of_ble_eq_true rfl), (Nat.le_of_ble_eq_true rfl)⟩) ⟨fun a U g mk q => by obtain ⟨q0, q1, qP, qK, qD⟩ := q; exact ⟨q0, q1, qP, va_K.moved (u := U) (U := U.calling g mk a) (Vm.Alike.refl U.vm) qK, qD⟩, va_recv hKc hPc (ci := 4) (q0 := 0) rfl rfl, fun U hU hW => ⟨rfl, by rw [hU], by rw [hU]; exact hPc, va_K.moved hW.alike hKc, hDc.weaken (fun _ _ _ _ => trivial)⟩⟩ rfl rfl hl.1 rfl (lv_room (Nat.le_of_ble_eq_true rfl)) dX6_addStructure_4 ⟨(Nat.le_of_ble_eq_true rfl), (Nat.le_of_ble_eq_true rfl)⟩) hS (fun q _ h => hFc q h) hFc (fun r_144 u t H1 locs ht hvm hw hB hz1 hk1 hS => ?_)
  obtain ⟨hP1, hK1, hD1⟩ := hB
  rw [ht] at hP1
  have hK1 := va_K.moved hvm.symm hK1
  obtain ⟨hP, hD⟩ := va_join (wr := [(h0, .inr (11, [.ref a, v1, v2, v3, v4, v5, v6, v7]))]) (w1 := [(a, .inr (4, [.int m0, .ref ed, .int 0]))]) hP hD [1] [0] rfl rfl (by decide) (by decide) hk1 hFc hP1 hD1
  have hK := (hK.sub (tys' := []) [] rfl).app hK1
  generalize H1 = H at hP hS ⊢
  have hP : va_P (dC, dI) vwCl [(h0, .inr (11, [.ref a, v1, v2, v3, v4, v5, v6, v7])), (a, .inr (4, [.int m0, .ref ed, .int 0]))] H := hP
  have hD : va_D A [(h0, .inr (11, [.ref a, v1, v2, v3, v4, v5, v6, v7])), (a, .inr (4, [.int m0, .ref ed, .int 0]))] := hD
  have hK : va_K (dC, dI) vwCl [] s := hK
  refine W.widen (k := 0) (n := 0) (Nat.le_of_ble_eq_true rfl) (Nat.le_of_ble_eq_true rfl) ?_
  have hw : r_144 = 0 := hw
  subst hw
  refine lv_bipush (v := 6) hx hb dX6_addStructure_7 (by decide) ?_
  refine lv_icmp_lt (tgt := 22) hx hb dX6_addStructure_9 (by decide) (fun c_145 => ?_) (fun c_145 => absurd (by decide) c_145)
  refine lv_aload_n hx hb dX6_addStructure_22 rfl (lv_at hl 0 rfl) ?_
  refine va_get (D := (dC, dI)) (ci := 11) (v := .ref a) (C := RX6) (T := TX6) (N := 8) hx hb hts inX6 hown hK hP 0 rfl rfl 0 (by decide) (hts _ q193) (fun _ h9 => h9) rfl dX6_addStructure_23 ?_
  refine va_new (ci := 10) (fs := [.null, .null, .int 0, .long 0, .int 0, .int 0, .int 0]) (C := RX5) (T := TX5) (N := 7) hx hb hts inX5 tyX5 tyX5_ok hown (hts _ q291) (hts _ q393) (hts _ q54) hK hP hD hS hA rfl (fun j hj => by rcases (show j = 0 ∨ j = 1 ∨ j = 2 ∨ j = 3 ∨ j = 4 ∨ j = 5 ∨ j = 6 by omega) with rfl | rfl | rfl | rfl | rfl | rfl | rfl <;> rfl) (Nat.le_of_ble_eq_true rfl) (Nat.le_of_ble_eq_true rfl) dX6_addStructure_26 (fun q_146 H hP hD hS => ?_)
  have hP : va_P (dC, dI) vwCl [(h0, .inr (11, [.ref a, v1, v2, v3, v4, v5, v6, v7])), (a, .inr (4, [.int m0, .ref ed, .int 0])), (q_146, .inr (10, [.null, .null, .int 0, .long 0, .int 0, .int 0, .int 0]))] H := hP
  have hD : va_D A [(h0, .inr (11, [.ref a, v1, v2, v3, v4, v5, v6, v7])), (a, .inr (4, [.int m0, .ref ed, .int 0])), (q_146, .inr (10, [.null, .null, .int 0, .long 0, .int 0, .int 0, .int 0]))] := hD
  refine W.widen (k := 1) (n := 7) (Nat.le_of_ble_eq_true rfl) (Nat.le_of_ble_eq_true rfl) ?_
  refine lv_dup hx hb dX6_addStructure_29 rfl ?_
  have hPc := hP.sub (ws' := [(q_146, .inr (10, [.null, .null, .int 0, .long 0, .int 0, .int 0, .int 0]))]) [2] rfl
  have hDc := hD.sub (ws' := [(q_146, .inr (10, [.null, .null, .int 0, .long 0, .int 0, .int 0, .int 0]))]) [2] (by decide) rfl
  have hKc := hK.sub (tys' := []) [] rfl
  have hFc := va_free (wc := [(q_146, .inr (10, [.null, .null, .int 0, .long 0, .int 0, .int 0, .int 0]))]) hD hS hA [2] rfl
  refine va_callv (va_runI (As := []) (rest := [.ref q_146, .ref a]) ⟨hx, hb, hml, hown, hts⟩ (m_structInit l dC dI H.size q_146) (cwI 0 hts (pw_c q396) rfl rfl rfl (hts _ q54) (hts _ q394) (hts _ q395) rfl (by decide +kernel) ⟨(Nat.le_of_ble_eq_true rfl), (Nat.le_of_ble_eq_true rfl)⟩) ⟨fun a U g mk q => by obtain ⟨q0, q1, qP, qK, qD⟩ := q; exact ⟨q0, q1, qP, va_K.moved (u := U) (U := U.calling g mk a) (Vm.Alike.refl U.vm) qK, qD⟩, fun U hU hW => ⟨rfl, by rw [hU], by rw [hU]; exact hPc, va_K.moved hW.alike hKc, hDc.weaken (fun _ _ _ _ => trivial)⟩⟩ rfl rfl hl.1 rfl (lv_room (Nat.le_of_ble_eq_true rfl)) dX6_addStructure_30 ⟨(Nat.le_of_ble_eq_true rfl), (Nat.le_of_ble_eq_true rfl)⟩) hS (fun q _ h => hFc q h) hFc (fun u t H1 locs ht hvm hw hB hz1 hk1 hS => ?_)
  obtain ⟨f0_148, f1_149, f2_150, f3_151, f4_152, f5_153, f6_154, hP1, hK1, hD1⟩ := hB
  rw [ht] at hP1
  have hK1 := va_K.moved hvm.symm hK1
  obtain ⟨hP, hD⟩ := va_join (wr := [(h0, .inr (11, [.ref a, v1, v2, v3, v4, v5, v6, v7])), (a, .inr (4, [.int m0, .ref ed, .int 0]))]) (w1 := [(q_146, .inr (10, [f0_148, f1_149, f2_150, f3_151, f4_152, f5_153, f6_154]))]) hP hD [2] [0, 1] rfl rfl (by decide) (by decide) hk1 hFc hP1 hD1
  have hK := (hK.sub (tys' := []) [] rfl).app hK1
  generalize H1 = H at hP hS ⊢
  have hP : va_P (dC, dI) vwCl [(h0, .inr (11, [.ref a, v1, v2, v3, v4, v5, v6, v7])), (a, .inr (4, [.int m0, .ref ed, .int 0])), (q_146, .inr (10, [f0_148, f1_149, f2_150, f3_151, f4_152, f5_153, f6_154]))] H := hP
  have hD : va_D A [(h0, .inr (11, [.ref a, v1, v2, v3, v4, v5, v6, v7])), (a, .inr (4, [.int m0, .ref ed, .int 0])), (q_146, .inr (10, [f0_148, f1_149, f2_150, f3_151, f4_152, f5_153, f6_154]))] := hD
  have hK : va_K (dC, dI) vwCl [] s := hK
  refine W.widen (k := 12) (n := 62) (Nat.le_of_ble_eq_true rfl) (Nat.le_of_ble_eq_true rfl) ?_
  have hPc := hP.sub (ws' := [(a, .inr (4, [.int m0, .ref ed, .int 0]))]) [1] rfl
  have hDc := hD.sub (ws' := [(a, .inr (4, [.int m0, .ref ed, .int 0]))]) [1] (by decide) rfl
  have hKc := hK.sub (tys' := []) [] rfl
  have hFc := va_free (wc := [(a, .inr (4, [.int m0, .ref ed, .int 0]))]) hD hS hA [1] rfl
  have hEk := pe.of hK hP (i := 2) (ci := 10) rfl rfl (va_Nw.of rfl (hZ.cast (args := #[]) (C := "Shakerhall$Structure") (T := "java/lang/Object") (by decide))) (pe_ne hP hD (i := 2) rfl [1] (wc := [(a, .inr (4, [.int m0, .ref ed, .int 0]))]) rfl (by decide))
  refine va_calli (va_runV (As := [.ref q_146]) (rest := []) ⟨hx, hb, hml, hown, hts⟩ (m_add l dC dI H.size ed a q_146 m0) (cwV 1 hts (pw_V q431 q432 q433 q46 q434) rfl rfl rfl (by decide +kernel) ⟨(Nat.le_of_ble_eq_true rfl), (Nat.le_of_ble_eq_true rfl)⟩) ⟨fun a U g mk q => by obtain ⟨q0, q1, qP, qK, qD, qZ, qE⟩ := q; exact ⟨q0, q1, qP, va_K.moved (u := U) (U := U.calling g mk a) (Vm.Alike.refl U.vm) qK, qD, qZ.same rfl, qE.same rfl⟩, va_recv hKc hPc (ci := 4) (q0 := 0) rfl rfl, fun U hU hW => ⟨rfl, by rw [hU], by rw [hU]; exact hPc, va_K.moved hW.alike hKc, hDc.weaken (fun _ _ _ _ => trivial), hZ.call hS hFc hU hW, (hEk.warm hW).heap hU⟩⟩ rfl rfl hl.1 rfl (lv_room (Nat.le_of_ble_eq_true rfl)) dX6_addStructure_33 ⟨(Nat.le_of_ble_eq_true rfl), (Nat.le_of_ble_eq_true rfl)⟩) hS (fun q _ h => hFc q h) hFc (fun r_155 u t H1 locs ht hvm hw hB hz1 hk1 hS => ?_)
  obtain ⟨qa_156, hP1, hK1, hD1⟩ := hB
  rw [ht] at hP1
  have hK1 := va_K.moved hvm.symm hK1
  obtain ⟨hP, hD⟩ := va_join (wr := [(h0, .inr (11, [.ref a, v1, v2, v3, v4, v5, v6, v7])), (q_146, .inr (10, [f0_148, f1_149, f2_150, f3_151, f4_152, f5_153, f6_154]))]) (w1 := [(a, .inr (4, [.int (m0 + 1), .ref qa_156, .int 1]))]) hP hD [1] [0, 2] rfl rfl (by decide) (by decide) hk1 hFc hP1 hD1
  have hK := (hK.sub (tys' := []) [] rfl).app hK1
  generalize H1 = H at hP hS ⊢
  have hP : va_P (dC, dI) vwCl [(h0, .inr (11, [.ref a, v1, v2, v3, v4, v5, v6, v7])), (q_146, .inr (10, [f0_148, f1_149, f2_150, f3_151, f4_152, f5_153, f6_154])), (a, .inr (4, [.int (m0 + 1), .ref qa_156, .int 1]))] H := hP
  have hD : va_D A [(h0, .inr (11, [.ref a, v1, v2, v3, v4, v5, v6, v7])), (q_146, .inr (10, [f0_148, f1_149, f2_150, f3_151, f4_152, f5_153, f6_154])), (a, .inr (4, [.int (m0 + 1), .ref qa_156, .int 1]))] := hD
  have hK : va_K (dC, dI) vwCl [] s := hK
  refine W.widen (k := 13) (n := 72) (Nat.le_of_ble_eq_true rfl) (Nat.le_of_ble_eq_true rfl) ?_
  have hw : r_155 = 1 := hw
  subst hw
  refine lv_pop hx hb dX6_addStructure_36 rfl ?_
  refine lv_aload_n hx hb dX6_addStructure_37 rfl (lv_at hl 0 rfl) ?_
  refine va_get (D := (dC, dI)) (ci := 11) (v := .ref a) (C := RX6) (T := TX6) (N := 8) hx hb hts inX6 hown hK hP 0 rfl rfl 0 (by decide) (hts _ q193) (fun _ h9 => h9) rfl dX6_addStructure_38 ?_
  have hPc := hP.sub (ws' := [(a, .inr (4, [.int (m0 + 1), .ref qa_156, .int 1]))]) [2] rfl
  have hDc := hD.sub (ws' := [(a, .inr (4, [.int (m0 + 1), .ref qa_156, .int 1]))]) [2] (by decide) rfl
  have hKc := hK.sub (tys' := []) [] rfl
  have hFc := va_free (wc := [(a, .inr (4, [.int (m0 + 1), .ref qa_156, .int 1]))]) hD hS hA [2] rfl
  refine va_calli (va_runV (As := []) (rest := []) ⟨hx, hb, hml, hown, hts⟩ (m_size l dC dI H.size a (.int (m0 + 1)) (.ref qa_156) 1) (cwV 0 hts (pw_V q273 q274 q275 q46 q276) rfl rfl rfl (by decide +kernel) ⟨(Nat.le_of_ble_eq_true rfl), (Nat.le_of_ble_eq_true rfl)⟩) ⟨fun a U g mk q => by obtain ⟨q0, q1, qP, qK, qD⟩ := q; exact ⟨q0, q1, qP, va_K.moved (u := U) (U := U.calling g mk a) (Vm.Alike.refl U.vm) qK, qD⟩, va_recv hKc hPc (ci := 4) (q0 := 0) rfl rfl, fun U hU hW => ⟨rfl, by rw [hU], by rw [hU]; exact hPc, va_K.moved hW.alike hKc, hDc.weaken (fun _ _ _ _ => trivial)⟩⟩ rfl rfl hl.1 rfl (lv_room (Nat.le_of_ble_eq_true rfl)) dX6_addStructure_41 ⟨(Nat.le_of_ble_eq_true rfl), (Nat.le_of_ble_eq_true rfl)⟩) hS (fun q _ h => hFc q h) hFc (fun r_157 u t H1 locs ht hvm hw hB hz1 hk1 hS => ?_)
  obtain ⟨hP1, hK1, hD1⟩ := hB
  rw [ht] at hP1
  have hK1 := va_K.moved hvm.symm hK1
  obtain ⟨hP, hD⟩ := va_join (wr := [(h0, .inr (11, [.ref a, v1, v2, v3, v4, v5, v6, v7])), (q_146, .inr (10, [f0_148, f1_149, f2_150, f3_151, f4_152, f5_153, f6_154]))]) (w1 := [(a, .inr (4, [.int (m0 + 1), .ref qa_156, .int 1]))]) hP hD [2] [0, 1] rfl rfl (by decide) (by decide) hk1 hFc hP1 hD1
  have hK := (hK.sub (tys' := []) [] rfl).app hK1
  generalize H1 = H at hP hS ⊢
  have hP : va_P (dC, dI) vwCl [(h0, .inr (11, [.ref a, v1, v2, v3, v4, v5, v6, v7])), (q_146, .inr (10, [f0_148, f1_149, f2_150, f3_151, f4_152, f5_153, f6_154])), (a, .inr (4, [.int (m0 + 1), .ref qa_156, .int 1]))] H := hP
  have hD : va_D A [(h0, .inr (11, [.ref a, v1, v2, v3, v4, v5, v6, v7])), (q_146, .inr (10, [f0_148, f1_149, f2_150, f3_151, f4_152, f5_153, f6_154])), (a, .inr (4, [.int (m0 + 1), .ref qa_156, .int 1]))] := hD
  have hK : va_K (dC, dI) vwCl [] s := hK
  refine W.widen (k := 13) (n := 72) (Nat.le_of_ble_eq_true rfl) (Nat.le_of_ble_eq_true rfl) ?_
  have hw : r_157 = 1 := hw
  subst hw
  refine lv_iconst (v := 1) hx hb dX6_addStructure_44 (by decide) ?_
  refine lv_isub hx hb dX6_addStructure_45 ?_
  refine lv_numI (v := 0) (by decide) ?_
  have hP9 := hP.sub (ws' := [(h0, .inr (11, [.ref a, v1, v2, v3, v4, v5, v6, v7])), (a, .inr (4, [.int (m0 + 1), .ref qa_156, .int 1]))]) [0, 2] rfl
  have hD9 := hD.sub (ws' := [(h0, .inr (11, [.ref a, v1, v2, v3, v4, v5, v6, v7])), (a, .inr (4, [.int (m0 + 1), .ref qa_156, .int 1]))]) [0, 2] (by decide) rfl
  have hK9 := hK.sub (tys' := []) [] rfl
  refine W.widen (k := 13) (n := 72) (Nat.le_of_ble_eq_true rfl) (Nat.le_of_ble_eq_true rfl) ?_
  exact W.iret (v := 0) hx hb hr (fun t ht hW => ⟨⟨0, (), rfl, rfl, ⟨qa_156, by rw [ht]; exact hP9, va_K.moved hW.alike hK9, hD9⟩⟩, hS.F ht⟩) hS.2.2 dX6_addStructure_46
set_option maxHeartbeats 4000000 in
set_option maxRecDepth 100000 in
theorem o_addSpecification (l : Launch) (dC : Nat → ClassId) (dI : Nat → Nat → Nat) (sz : Nat) (ed : Nat) (h0 : Nat) (a : Nat) (v0 : Value) (v1 : Value) (v3 : Value) (v4 : Value) (v5 : Value) (v6 : Value) (v7 : Value) (m0 : Int32) : Met l yX6_addSpecification (pw_ws yX6_addSpecification cX6_addSpecification 1 (some .int)) ({ frames := 5, cells := 4, slots := 28, locals := 107 } : Room) (va_Pc [.ref h0] (fun U => U.heap.size = sz ∧ va_P (dC, dI) vwCl [(h0, .inr (11, [v0, v1, .ref a, v3, v4, v5, v6, v7])), (a, .inr (4, [.int m0, .ref ed, .int 0]))] U.heap ∧ va_K (dC, dI) vwCl [] U ∧ va_D (fun _ => True) [(h0, .inr (11, [v0, v1, .ref a, v3, v4, v5, v6, v7])), (a, .inr (4, [.int m0, .ref ed, .int 0]))] ∧ pz ed (va_A [(h0, .inr (11, [v0, v1, .ref a, v3, v4, v5, v6, v7])), (a, .inr (4, [.int m0, .ref ed, .int 0]))] sz) U U.heap)) (va_Qi (fun (r : Int32) (_ : Unit) => r = 0) (fun (_ : Unit) (t : State) => ∃ (qb : Nat), va_P (dC, dI) vwCl [(h0, .inr (11, [v0, v1, .ref a, v3, v4, v5, v6, v7])), (a, .inr (4, [.int (m0 + 1), .ref qb, .int 1]))] t.heap ∧ va_K (dC, dI) vwCl [] t ∧ va_D (va_A [(h0, .inr (11, [v0, v1, .ref a, v3, v4, v5, v6, v7])), (a, .inr (4, [.int m0, .ref ed, .int 0]))] sz) [(h0, .inr (11, [v0, v1, .ref a, v3, v4, v5, v6, v7])), (a, .inr (4, [.int (m0 + 1), .ref qb, .int 1]))]) (va_A [(h0, .inr (11, [v0, v1, .ref a, v3, v4, v5, v6, v7])), (a, .inr (4, [.int m0, .ref ed, .int 0]))] sz)) 4 28 (va_A [(h0, .inr (11, [v0, v1, .ref a, v3, v4, v5, v6, v7])), (a, .inr (4, [.int m0, .ref ed, .int 0]))] sz) := by
  refine Met.ofW (cc := cX6_addSpecification) (maxL := 1) (ret := (some .int)) (by decide) rfl ?_
  intro p e s m args below meth c s₁ B hml hv
  obtain ⟨rfl, hsz, hP, hK, hD0, hZ⟩ := hv
  have hx := B.exec
  have hb := B.bytes
  have hr := B.returns
  have hts0 := atoms_spec (ws := (pw_ws yX6_addSpecification cX6_addSpecification 1 (some .int))) B.pre
  have hts : ∀ w ∈ pw_all, w.before _ s = true := fun w h => hts0 w (List.mem_cons_of_mem _ h)
  have hown : s.vm.findClass RX6 = some m.cls := findClass_of_methodNamed B.named
  have hlocks := B.notSynchronized
  subst hsz
  have hD := hD0.self (sz := s.heap.size)
  generalize hAe : va_A [(h0, .inr (11, [v0, v1, .ref a, v3, v4, v5, v6, v7])), (a, .inr (4, [.int m0, .ref ed, .int 0]))] s.heap.size = A at hD hZ ⊢
  have hA : ∀ q : Nat, s.heap.size ≤ q → A q := fun q h => by rw [← hAe]; exact Or.inr h
  have hS : va_S A s.heap s.heap [] := va_S.rf
  have hP : va_P (dC, dI) vwCl [(h0, .inr (11, [v0, v1, .ref a, v3, v4, v5, v6, v7])), (a, .inr (4, [.int m0, .ref ed, .int 0]))] s.heap := hP
  have hl := lv_entry ([.ref h0]) (n := 1) (Nat.le_of_ble_eq_true rfl)
  rw [lg_entry_eq]
  generalize (lg_sl ([.ref h0]) ++ List.replicate (1 - (lg_sl ([.ref h0])).length) Slot.unset).toArray = ls at hl ⊢
  have hl : lv_has ls 1 [(0, .ref h0)] := hl
  skip
  refine lv_aload_n hx hb dX6_addSpecification_0 rfl (lv_at hl 0 rfl) ?_
  refine va_get (D := (dC, dI)) (ci := 11) (v := .ref a) (C := RX6) (T := TX6) (N := 8) hx hb hts inX6 hown hK hP 0 rfl rfl 2 (by decide) (hts _ q195) (fun _ h9 => h9) rfl dX6_addSpecification_1 ?_
  have hPc := hP.sub (ws' := [(a, .inr (4, [.int m0, .ref ed, .int 0]))]) [1] rfl
  have hDc := hD.sub (ws' := [(a, .inr (4, [.int m0, .ref ed, .int 0]))]) [1] (by decide) rfl
  have hKc := hK.sub (tys' := []) [] rfl
  have hFc := va_free (wc := [(a, .inr (4, [.int m0, .ref ed, .int 0]))]) hD hS hA [1] rfl
  refine va_calli (va_runV (As := []) (rest := []) ⟨hx, hb, hml, hown, hts⟩ (m_size l dC dI s.heap.size a (.int m0) (.ref ed) 0) (cwV 0 hts (pw_V q273 q274 q275 q46 q276) rfl rfl rfl (by decide +kernel) ⟨(Nat.le_of_ble_eq_true rfl), (Nat.le_of_ble_eq_true rfl)⟩) ⟨fun a U g mk q => by obtain ⟨q0, q1, qP, qK, qD⟩ := q; exact ⟨q0, q1, qP, va_K.moved (u := U) (U := U.calling g mk a) (Vm.Alike.refl U.vm) qK, qD⟩, va_recv hKc hPc (ci := 4) (q0 := 0) rfl rfl, fun U hU hW => ⟨rfl, by rw [hU], by rw [hU]; exact hPc, va_K.moved hW.alike hKc, hDc.weaken (fun _ _ _ _ => trivial)⟩⟩ rfl rfl hl.1 rfl (lv_room (Nat.le_of_ble_eq_true rfl)) dX6_addSpecification_4 ⟨(Nat.le_of_ble_eq_true rfl), (Nat.le_of_ble_eq_true rfl)⟩) hS (fun q _ h => hFc q h) hFc (fun r_158 u t H1 locs ht hvm hw hB hz1 hk1 hS => ?_)
  obtain ⟨hP1, hK1, hD1⟩ := hB
  rw [ht] at hP1
  have hK1 := va_K.moved hvm.symm hK1
  obtain ⟨hP, hD⟩ := va_join (wr := [(h0, .inr (11, [v0, v1, .ref a, v3, v4, v5, v6, v7]))]) (w1 := [(a, .inr (4, [.int m0, .ref ed, .int 0]))]) hP hD [1] [0] rfl rfl (by decide) (by decide) hk1 hFc hP1 hD1
  have hK := (hK.sub (tys' := []) [] rfl).app hK1
  generalize H1 = H at hP hS ⊢
  have hP : va_P (dC, dI) vwCl [(h0, .inr (11, [v0, v1, .ref a, v3, v4, v5, v6, v7])), (a, .inr (4, [.int m0, .ref ed, .int 0]))] H := hP
  have hD : va_D A [(h0, .inr (11, [v0, v1, .ref a, v3, v4, v5, v6, v7])), (a, .inr (4, [.int m0, .ref ed, .int 0]))] := hD
  have hK : va_K (dC, dI) vwCl [] s := hK
  refine W.widen (k := 0) (n := 0) (Nat.le_of_ble_eq_true rfl) (Nat.le_of_ble_eq_true rfl) ?_
  have hw : r_158 = 0 := hw
  subst hw
  refine lv_iconst (v := 4) hx hb dX6_addSpecification_7 (by decide) ?_
  refine lv_icmp_lt (tgt := 21) hx hb dX6_addSpecification_8 (by decide) (fun c_159 => ?_) (fun c_159 => absurd (by decide) c_159)
  refine lv_aload_n hx hb dX6_addSpecification_21 rfl (lv_at hl 0 rfl) ?_
  refine va_get (D := (dC, dI)) (ci := 11) (v := .ref a) (C := RX6) (T := TX6) (N := 8) hx hb hts inX6 hown hK hP 0 rfl rfl 2 (by decide) (hts _ q195) (fun _ h9 => h9) rfl dX6_addSpecification_22 ?_
  refine va_new (ci := 9) (fs := [.null, .null]) (C := RX4) (T := TX4) (N := 2) hx hb hts inX4 tyX4 tyX4_ok hown (hts _ q719) (hts _ q720) (hts _ q67) hK hP hD hS hA rfl (fun j hj => by rcases (show j = 0 ∨ j = 1 by omega) with rfl | rfl <;> rfl) (Nat.le_of_ble_eq_true rfl) (Nat.le_of_ble_eq_true rfl) dX6_addSpecification_25 (fun q_160 H hP hD hS => ?_)
  have hP : va_P (dC, dI) vwCl [(h0, .inr (11, [v0, v1, .ref a, v3, v4, v5, v6, v7])), (a, .inr (4, [.int m0, .ref ed, .int 0])), (q_160, .inr (9, [.null, .null]))] H := hP
  have hD : va_D A [(h0, .inr (11, [v0, v1, .ref a, v3, v4, v5, v6, v7])), (a, .inr (4, [.int m0, .ref ed, .int 0])), (q_160, .inr (9, [.null, .null]))] := hD
  refine W.widen (k := 1) (n := 2) (Nat.le_of_ble_eq_true rfl) (Nat.le_of_ble_eq_true rfl) ?_
  refine lv_dup hx hb dX6_addSpecification_28 rfl ?_
  have hPc := hP.sub (ws' := [(q_160, .inr (9, [.null, .null]))]) [2] rfl
  have hDc := hD.sub (ws' := [(q_160, .inr (9, [.null, .null]))]) [2] (by decide) rfl
  have hKc := hK.sub (tys' := []) [] rfl
  have hFc := va_free (wc := [(q_160, .inr (9, [.null, .null]))]) hD hS hA [2] rfl
  refine va_callv (va_runI (As := []) (rest := [.ref q_160, .ref a]) ⟨hx, hb, hml, hown, hts⟩ (m_specInit l dC dI H.size q_160) (cwI 0 hts (pw_c q723) rfl rfl rfl (hts _ q67) (hts _ q721) (hts _ q722) rfl (by decide +kernel) ⟨(Nat.le_of_ble_eq_true rfl), (Nat.le_of_ble_eq_true rfl)⟩) ⟨fun a U g mk q => by obtain ⟨q0, q1, qP, qK, qD⟩ := q; exact ⟨q0, q1, qP, va_K.moved (u := U) (U := U.calling g mk a) (Vm.Alike.refl U.vm) qK, qD⟩, fun U hU hW => ⟨rfl, by rw [hU], by rw [hU]; exact hPc, va_K.moved hW.alike hKc, hDc.weaken (fun _ _ _ _ => trivial)⟩⟩ rfl rfl hl.1 rfl (lv_room (Nat.le_of_ble_eq_true rfl)) dX6_addSpecification_29 ⟨(Nat.le_of_ble_eq_true rfl), (Nat.le_of_ble_eq_true rfl)⟩) hS (fun q _ h => hFc q h) hFc (fun u t H1 locs ht hvm hw hB hz1 hk1 hS => ?_)
  obtain ⟨f0_162, f1_163, hP1, hK1, hD1⟩ := hB
  rw [ht] at hP1
  have hK1 := va_K.moved hvm.symm hK1
  obtain ⟨hP, hD⟩ := va_join (wr := [(h0, .inr (11, [v0, v1, .ref a, v3, v4, v5, v6, v7])), (a, .inr (4, [.int m0, .ref ed, .int 0]))]) (w1 := [(q_160, .inr (9, [f0_162, f1_163]))]) hP hD [2] [0, 1] rfl rfl (by decide) (by decide) hk1 hFc hP1 hD1
  have hK := (hK.sub (tys' := []) [] rfl).app hK1
  generalize H1 = H at hP hS ⊢
  have hP : va_P (dC, dI) vwCl [(h0, .inr (11, [v0, v1, .ref a, v3, v4, v5, v6, v7])), (a, .inr (4, [.int m0, .ref ed, .int 0])), (q_160, .inr (9, [f0_162, f1_163]))] H := hP
  have hD : va_D A [(h0, .inr (11, [v0, v1, .ref a, v3, v4, v5, v6, v7])), (a, .inr (4, [.int m0, .ref ed, .int 0])), (q_160, .inr (9, [f0_162, f1_163]))] := hD
  have hK : va_K (dC, dI) vwCl [] s := hK
  refine W.widen (k := 3) (n := 18) (Nat.le_of_ble_eq_true rfl) (Nat.le_of_ble_eq_true rfl) ?_
  have hPc := hP.sub (ws' := [(a, .inr (4, [.int m0, .ref ed, .int 0]))]) [1] rfl
  have hDc := hD.sub (ws' := [(a, .inr (4, [.int m0, .ref ed, .int 0]))]) [1] (by decide) rfl
  have hKc := hK.sub (tys' := []) [] rfl
  have hFc := va_free (wc := [(a, .inr (4, [.int m0, .ref ed, .int 0]))]) hD hS hA [1] rfl
  have hEk := pe.of hK hP (i := 2) (ci := 9) rfl rfl (va_Nw.of rfl (hZ.cast (args := #[]) (C := "Shakerhall$Specification") (T := "java/lang/Object") (by decide))) (pe_ne hP hD (i := 2) rfl [1] (wc := [(a, .inr (4, [.int m0, .ref ed, .int 0]))]) rfl (by decide))
  refine va_calli (va_runV (As := [.ref q_160]) (rest := []) ⟨hx, hb, hml, hown, hts⟩ (m_add l dC dI H.size ed a q_160 m0) (cwV 1 hts (pw_V q431 q432 q433 q46 q434) rfl rfl rfl (by decide +kernel) ⟨(Nat.le_of_ble_eq_true rfl), (Nat.le_of_ble_eq_true rfl)⟩) ⟨fun a U g mk q => by obtain ⟨q0, q1, qP, qK, qD, qZ, qE⟩ := q; exact ⟨q0, q1, qP, va_K.moved (u := U) (U := U.calling g mk a) (Vm.Alike.refl U.vm) qK, qD, qZ.same rfl, qE.same rfl⟩, va_recv hKc hPc (ci := 4) (q0 := 0) rfl rfl, fun U hU hW => ⟨rfl, by rw [hU], by rw [hU]; exact hPc, va_K.moved hW.alike hKc, hDc.weaken (fun _ _ _ _ => trivial), hZ.call hS hFc hU hW, (hEk.warm hW).heap hU⟩⟩ rfl rfl hl.1 rfl (lv_room (Nat.le_of_ble_eq_true rfl)) dX6_addSpecification_32 ⟨(Nat.le_of_ble_eq_true rfl), (Nat.le_of_ble_eq_true rfl)⟩) hS (fun q _ h => hFc q h) hFc (fun r_164 u t H1 locs ht hvm hw hB hz1 hk1 hS => ?_)
  obtain ⟨qa_165, hP1, hK1, hD1⟩ := hB
  rw [ht] at hP1
  have hK1 := va_K.moved hvm.symm hK1
  obtain ⟨hP, hD⟩ := va_join (wr := [(h0, .inr (11, [v0, v1, .ref a, v3, v4, v5, v6, v7])), (q_160, .inr (9, [f0_162, f1_163]))]) (w1 := [(a, .inr (4, [.int (m0 + 1), .ref qa_165, .int 1]))]) hP hD [1] [0, 2] rfl rfl (by decide) (by decide) hk1 hFc hP1 hD1
  have hK := (hK.sub (tys' := []) [] rfl).app hK1
  generalize H1 = H at hP hS ⊢
  have hP : va_P (dC, dI) vwCl [(h0, .inr (11, [v0, v1, .ref a, v3, v4, v5, v6, v7])), (q_160, .inr (9, [f0_162, f1_163])), (a, .inr (4, [.int (m0 + 1), .ref qa_165, .int 1]))] H := hP
  have hD : va_D A [(h0, .inr (11, [v0, v1, .ref a, v3, v4, v5, v6, v7])), (q_160, .inr (9, [f0_162, f1_163])), (a, .inr (4, [.int (m0 + 1), .ref qa_165, .int 1]))] := hD
  have hK : va_K (dC, dI) vwCl [] s := hK
  refine W.widen (k := 4) (n := 28) (Nat.le_of_ble_eq_true rfl) (Nat.le_of_ble_eq_true rfl) ?_
  have hw : r_164 = 1 := hw
  subst hw
  refine lv_pop hx hb dX6_addSpecification_35 rfl ?_
  refine lv_aload_n hx hb dX6_addSpecification_36 rfl (lv_at hl 0 rfl) ?_
  refine va_get (D := (dC, dI)) (ci := 11) (v := .ref a) (C := RX6) (T := TX6) (N := 8) hx hb hts inX6 hown hK hP 0 rfl rfl 2 (by decide) (hts _ q195) (fun _ h9 => h9) rfl dX6_addSpecification_37 ?_
  have hPc := hP.sub (ws' := [(a, .inr (4, [.int (m0 + 1), .ref qa_165, .int 1]))]) [2] rfl
  have hDc := hD.sub (ws' := [(a, .inr (4, [.int (m0 + 1), .ref qa_165, .int 1]))]) [2] (by decide) rfl
  have hKc := hK.sub (tys' := []) [] rfl
  have hFc := va_free (wc := [(a, .inr (4, [.int (m0 + 1), .ref qa_165, .int 1]))]) hD hS hA [2] rfl
  refine va_calli (va_runV (As := []) (rest := []) ⟨hx, hb, hml, hown, hts⟩ (m_size l dC dI H.size a (.int (m0 + 1)) (.ref qa_165) 1) (cwV 0 hts (pw_V q273 q274 q275 q46 q276) rfl rfl rfl (by decide +kernel) ⟨(Nat.le_of_ble_eq_true rfl), (Nat.le_of_ble_eq_true rfl)⟩) ⟨fun a U g mk q => by obtain ⟨q0, q1, qP, qK, qD⟩ := q; exact ⟨q0, q1, qP, va_K.moved (u := U) (U := U.calling g mk a) (Vm.Alike.refl U.vm) qK, qD⟩, va_recv hKc hPc (ci := 4) (q0 := 0) rfl rfl, fun U hU hW => ⟨rfl, by rw [hU], by rw [hU]; exact hPc, va_K.moved hW.alike hKc, hDc.weaken (fun _ _ _ _ => trivial)⟩⟩ rfl rfl hl.1 rfl (lv_room (Nat.le_of_ble_eq_true rfl)) dX6_addSpecification_40 ⟨(Nat.le_of_ble_eq_true rfl), (Nat.le_of_ble_eq_true rfl)⟩) hS (fun q _ h => hFc q h) hFc (fun r_166 u t H1 locs ht hvm hw hB hz1 hk1 hS => ?_)
  obtain ⟨hP1, hK1, hD1⟩ := hB
  rw [ht] at hP1
  have hK1 := va_K.moved hvm.symm hK1
  obtain ⟨hP, hD⟩ := va_join (wr := [(h0, .inr (11, [v0, v1, .ref a, v3, v4, v5, v6, v7])), (q_160, .inr (9, [f0_162, f1_163]))]) (w1 := [(a, .inr (4, [.int (m0 + 1), .ref qa_165, .int 1]))]) hP hD [2] [0, 1] rfl rfl (by decide) (by decide) hk1 hFc hP1 hD1
  have hK := (hK.sub (tys' := []) [] rfl).app hK1
  generalize H1 = H at hP hS ⊢
  have hP : va_P (dC, dI) vwCl [(h0, .inr (11, [v0, v1, .ref a, v3, v4, v5, v6, v7])), (q_160, .inr (9, [f0_162, f1_163])), (a, .inr (4, [.int (m0 + 1), .ref qa_165, .int 1]))] H := hP
  have hD : va_D A [(h0, .inr (11, [v0, v1, .ref a, v3, v4, v5, v6, v7])), (q_160, .inr (9, [f0_162, f1_163])), (a, .inr (4, [.int (m0 + 1), .ref qa_165, .int 1]))] := hD
  have hK : va_K (dC, dI) vwCl [] s := hK
  refine W.widen (k := 4) (n := 28) (Nat.le_of_ble_eq_true rfl) (Nat.le_of_ble_eq_true rfl) ?_
  have hw : r_166 = 1 := hw
  subst hw
  refine lv_iconst (v := 1) hx hb dX6_addSpecification_43 (by decide) ?_
  refine lv_isub hx hb dX6_addSpecification_44 ?_
  refine lv_numI (v := 0) (by decide) ?_
  have hP9 := hP.sub (ws' := [(h0, .inr (11, [v0, v1, .ref a, v3, v4, v5, v6, v7])), (a, .inr (4, [.int (m0 + 1), .ref qa_165, .int 1]))]) [0, 2] rfl
  have hD9 := hD.sub (ws' := [(h0, .inr (11, [v0, v1, .ref a, v3, v4, v5, v6, v7])), (a, .inr (4, [.int (m0 + 1), .ref qa_165, .int 1]))]) [0, 2] (by decide) rfl
  have hK9 := hK.sub (tys' := []) [] rfl
  refine W.widen (k := 4) (n := 28) (Nat.le_of_ble_eq_true rfl) (Nat.le_of_ble_eq_true rfl) ?_
  exact W.iret (v := 0) hx hb hr (fun t ht hW => ⟨⟨0, (), rfl, rfl, ⟨qa_165, by rw [ht]; exact hP9, va_K.moved hW.alike hK9, hD9⟩⟩, hS.F ht⟩) hS.2.2 dX6_addSpecification_45
set_option maxHeartbeats 4000000 in
set_option maxRecDepth 100000 in
theorem o_typeOk (l : Launch) (dC : Nat → ClassId) (dI : Nat → Nat → Nat) (sz : Nat) (h0 : Nat) (tt : Nat) (v0 : Value) (v1 : Value) (v2 : Value) (v3 : Value) (v6 : Value) (v7 : Value) (cT : ClassId) (f : Nat → Int32) (p0 : Int32) (h1 : ¬ p0 < (-99999)) (h2 : p0 ≤ 99999) : Met l yX6_type (pw_ws yX6_type cX6_type 2 (some .int)) ({ frames := 2, cells := 0, slots := 0, locals := 42 } : Room) (va_Pc [.ref h0, .int p0] (fun U => U.heap.size = sz ∧ va_P (dC, dI) vwCl [(h0, .inr (11, [v0, v1, v2, v3, .ref tt, .int 0, v6, v7])), (tt, .inl (cT, 24, .inl f))] U.heap ∧ va_K (dC, dI) vwCl [(cT, .int)] U ∧ va_D (fun _ => True) [(h0, .inr (11, [v0, v1, v2, v3, .ref tt, .int 0, v6, v7])), (tt, .inl (cT, 24, .inl f))])) (va_Qi (fun (r : Int32) (_ : Unit) => r = 1) (fun (_ : Unit) (t : State) => ∃ (f2 : Nat → Int32), va_P (dC, dI) vwCl [(h0, .inr (11, [v0, v1, v2, v3, .ref tt, .int 1, v6, v7])), (tt, .inl (cT, 24, .inl f2))] t.heap ∧ va_K (dC, dI) vwCl [(cT, .int)] t ∧ va_D (va_A [(h0, .inr (11, [v0, v1, v2, v3, .ref tt, .int 0, v6, v7])), (tt, .inl (cT, 24, .inl f))] sz) [(h0, .inr (11, [v0, v1, v2, v3, .ref tt, .int 1, v6, v7])), (tt, .inl (cT, 24, .inl f2))]) (va_A [(h0, .inr (11, [v0, v1, v2, v3, .ref tt, .int 0, v6, v7])), (tt, .inl (cT, 24, .inl f))] sz)) 0 0 (va_A [(h0, .inr (11, [v0, v1, v2, v3, .ref tt, .int 0, v6, v7])), (tt, .inl (cT, 24, .inl f))] sz) := by
  refine Met.ofW (cc := cX6_type) (maxL := 2) (ret := (some .int)) (by decide) rfl ?_
  intro p e s m args below meth c s₁ B hml hv
  obtain ⟨rfl, hsz, hP, hK, hD0⟩ := hv
  have hx := B.exec
  have hb := B.bytes
  have hr := B.returns
  have hts0 := atoms_spec (ws := (pw_ws yX6_type cX6_type 2 (some .int))) B.pre
  have hts : ∀ w ∈ pw_all, w.before _ s = true := fun w h => hts0 w (List.mem_cons_of_mem _ h)
  have hown : s.vm.findClass RX6 = some m.cls := findClass_of_methodNamed B.named
  have hlocks := B.notSynchronized
  subst hsz
  have hD := hD0.self (sz := s.heap.size)
  generalize hAe : va_A [(h0, .inr (11, [v0, v1, v2, v3, .ref tt, .int 0, v6, v7])), (tt, .inl (cT, 24, .inl f))] s.heap.size = A at hD ⊢
  have hA : ∀ q : Nat, s.heap.size ≤ q → A q := fun q h => by rw [← hAe]; exact Or.inr h
  have hS : va_S A s.heap s.heap [] := va_S.rf
  have hP : va_P (dC, dI) vwCl [(h0, .inr (11, [v0, v1, v2, v3, .ref tt, .int 0, v6, v7])), (tt, .inl (cT, 24, .inl f))] s.heap := hP
  have hl := lv_entry ([.ref h0, .int p0]) (n := 2) (Nat.le_of_ble_eq_true rfl)
  rw [lg_entry_eq]
  generalize (lg_sl ([.ref h0, .int p0]) ++ List.replicate (2 - (lg_sl ([.ref h0, .int p0])).length) Slot.unset).toArray = ls at hl ⊢
  have hl : lv_has ls 2 [(0, .ref h0), (1, .int p0)] := hl
  skip
  refine lv_iload_n hx hb dX6_type_0 rfl (lv_at hl 1 rfl) ?_
  refine lv_ldcw (v := -99999) hx hb hown (hts _ q1106) dX6_type_1 ?_
  refine lv_ldc (v := 99999) hx hb hown (hts _ q751) dX6_type_4 ?_
  have hPc := hP.sub (ws' := []) [] rfl
  have hDc := hD.sub (ws' := []) [] (by decide) rfl
  have hKc := hK.sub (tys' := []) [] rfl
  have hFc := va_free (wc := []) hD hS hA [] rfl
  refine va_callv (va_runS (As := [.int p0, .int (-99999), .int 99999]) (rest := []) ⟨hx, hb, hml, hown, hts⟩ (o_rangeOk l dC dI s.heap.size p0 (-99999) 99999 h1 h2) (va_cwS 3 hts (pw_S q528 q529 q43 q530) rfl rfl rfl (by decide +kernel) ⟨(Nat.le_of_ble_eq_true rfl), (Nat.le_of_ble_eq_true rfl)⟩) ⟨fun a U g mk q => by obtain ⟨q0, q1, qP, qK, qD⟩ := q; exact ⟨q0, q1, qP, va_K.moved (u := U) (U := U.calling g mk a) (Vm.Alike.refl U.vm) qK, qD⟩, fun U hU hW => ⟨rfl, by rw [hU], by rw [hU]; exact hPc, va_K.moved hW.alike hKc, hDc.weaken (fun _ _ _ _ => trivial)⟩⟩ rfl rfl hl.1 rfl (lv_room (Nat.le_of_ble_eq_true rfl)) dX6_type_6 ⟨(Nat.le_of_ble_eq_true rfl), (Nat.le_of_ble_eq_true rfl)⟩) hS (fun q _ h => hFc q h) hFc (fun u t H1 locs ht hvm hw hB hz1 hk1 hS => ?_)
  obtain ⟨hP1, hK1, hD1⟩ := hB
  rw [ht] at hP1
  have hK1 := va_K.moved hvm.symm hK1
  obtain ⟨hP, hD⟩ := va_join (wr := [(h0, .inr (11, [v0, v1, v2, v3, .ref tt, .int 0, v6, v7])), (tt, .inl (cT, 24, .inl f))]) (w1 := []) hP hD [] [0, 1] rfl rfl (by decide) (by decide) hk1 hFc hP1 hD1
  have hK := (hK.sub (tys' := [(cT, .int)]) [0] rfl).app hK1
  generalize H1 = H at hP hS ⊢
  have hP : va_P (dC, dI) vwCl [(h0, .inr (11, [v0, v1, v2, v3, .ref tt, .int 0, v6, v7])), (tt, .inl (cT, 24, .inl f))] H := hP
  have hD : va_D A [(h0, .inr (11, [v0, v1, v2, v3, .ref tt, .int 0, v6, v7])), (tt, .inl (cT, 24, .inl f))] := hD
  have hK : va_K (dC, dI) vwCl [(cT, .int)] s := hK
  refine W.widen (k := 0) (n := 0) (Nat.le_of_ble_eq_true rfl) (Nat.le_of_ble_eq_true rfl) ?_
  refine lv_aload_n hx hb dX6_type_9 rfl (lv_at hl 0 rfl) ?_
  refine va_get (D := (dC, dI)) (ci := 11) (v := .int 0) (C := RX6) (T := TX6) (N := 8) hx hb hts inX6 hown hK hP 0 rfl rfl 5 (by decide) (hts _ q198) (fun _ h9 => h9) rfl dX6_type_10 ?_
  refine lv_bipush (v := 24) hx hb dX6_type_13 (by decide) ?_
  refine lv_icmp_lt (tgt := 29) hx hb dX6_type_15 (by decide) (fun c_168 => ?_) (fun c_168 => absurd (by decide) c_168)
  refine lv_aload_n hx hb dX6_type_29 rfl (lv_at hl 0 rfl) ?_
  refine va_get (D := (dC, dI)) (ci := 11) (v := .ref tt) (C := RX6) (T := TX6) (N := 8) hx hb hts inX6 hown hK hP 0 rfl rfl 4 (by decide) (hts _ q197) (fun _ h9 => h9) rfl dX6_type_30 ?_
  refine lv_aload_n hx hb dX6_type_33 rfl (lv_at hl 0 rfl) ?_
  refine va_get (D := (dC, dI)) (ci := 11) (v := .int 0) (C := RX6) (T := TX6) (N := 8) hx hb hts inX6 hown hK hP 0 rfl rfl 5 (by decide) (hts _ q198) (fun _ h9 => h9) rfl dX6_type_34 ?_
  refine lv_iload_n hx hb dX6_type_37 rfl (lv_at hl 1 rfl) ?_
  refine va_iast hx hb hK hP hD hS 1 0 rfl rfl (by unfold vp_in; decide) dX6_type_38 (fun H locs hP hD hS => ?_)
  have hP : va_P (dC, dI) vwCl [(h0, .inr (11, [v0, v1, v2, v3, .ref tt, .int 0, v6, v7])), (tt, .inl (cT, 24, .inl (upd f (0 : Int32).toNatClampNeg p0)))] H := hP
  have hD : va_D A [(h0, .inr (11, [v0, v1, v2, v3, .ref tt, .int 0, v6, v7])), (tt, .inl (cT, 24, .inl (upd f (0 : Int32).toNatClampNeg p0)))] := hD
  generalize (upd f (0 : Int32).toNatClampNeg p0) = f_169 at hP hD
  refine lv_aload_n hx hb dX6_type_39 rfl (lv_at hl 0 rfl) ?_
  refine lv_dup hx hb dX6_type_40 rfl ?_
  refine va_get (D := (dC, dI)) (ci := 11) (v := .int 0) (C := RX6) (T := TX6) (N := 8) hx hb hts inX6 hown hK hP 0 rfl rfl 5 (by decide) (hts _ q198) (fun _ h9 => h9) rfl dX6_type_41 ?_
  refine lv_iconst (v := 1) hx hb dX6_type_44 (by decide) ?_
  refine lv_iadd hx hb dX6_type_45 ?_
  refine lv_numI (v := 1) (by decide) ?_
  refine va_put (D := (dC, dI)) (ci := 11) (v := .int 1) (ty := .int) (C := RX6) (T := TX6) (N := 8) hx hb hts inX6 tyX6 tyX6_ok nmX6 hown hK hP hD hS 0 rfl rfl 5 (by decide) (hts _ q198) (fun _ h9 => h9) rfl (by decide +kernel) rfl rfl (Nat.le_of_ble_eq_true rfl) dX6_type_46 (fun H locs hP hD hS => ?_)
  have hP : va_P (dC, dI) vwCl [(h0, .inr (11, [v0, v1, v2, v3, .ref tt, .int 1, v6, v7])), (tt, .inl (cT, 24, .inl f_169))] H := hP
  have hD : va_D A [(h0, .inr (11, [v0, v1, v2, v3, .ref tt, .int 1, v6, v7])), (tt, .inl (cT, 24, .inl f_169))] := hD
  refine lv_aload_n hx hb dX6_type_49 rfl (lv_at hl 0 rfl) ?_
  refine va_get (D := (dC, dI)) (ci := 11) (v := .int 1) (C := RX6) (T := TX6) (N := 8) hx hb hts inX6 hown hK hP 0 rfl rfl 5 (by decide) (hts _ q198) (fun _ h9 => h9) rfl dX6_type_50 ?_
  have hP9 := hP.sub (ws' := [(h0, .inr (11, [v0, v1, v2, v3, .ref tt, .int 1, v6, v7])), (tt, .inl (cT, 24, .inl f_169))]) [0, 1] rfl
  have hD9 := hD.sub (ws' := [(h0, .inr (11, [v0, v1, v2, v3, .ref tt, .int 1, v6, v7])), (tt, .inl (cT, 24, .inl f_169))]) [0, 1] (by decide) rfl
  have hK9 := hK.sub (tys' := [(cT, .int)]) [0] rfl
  refine W.widen (k := 0) (n := 0) (Nat.le_of_ble_eq_true rfl) (Nat.le_of_ble_eq_true rfl) ?_
  exact W.iret (v := 1) hx hb hr (fun t ht hW => ⟨⟨1, (), rfl, rfl, ⟨f_169, by rw [ht]; exact hP9, va_K.moved hW.alike hK9, hD9⟩⟩, hS.F ht⟩) hS.2.2 dX6_type_53
set_option maxHeartbeats 4000000 in
set_option maxRecDepth 100000 in
theorem o_typeBad (l : Launch) (hl9 : l.stackTraces = false) (dC : Nat → ClassId) (dI : Nat → Nat → Nat) (sz : Nat) (ed : Nat) (h0 : Nat) (v0 : Value) (v1 : Value) (v2 : Value) (v3 : Value) (v4 : Value) (v5 : Value) (v6 : Value) (v7 : Value) (p0 : Int32) (h1 : p0 < (-99999) ∨ ¬ p0 ≤ 99999) : vx_Met l yX6_type (pw_ws yX6_type cX6_type 2 (some .int)) ({ frames := 7, cells := 1, slots := 6, locals := 122 } : Room) (va_Pc [.ref h0, .int p0] (fun U => U.heap.size = sz ∧ va_P (dC, dI) vwCl [(h0, .inr (11, [v0, v1, v2, v3, v4, v5, v6, v7]))] U.heap ∧ va_K (dC, dI) vwCl [] U ∧ va_D (fun _ => True) [(h0, .inr (11, [v0, v1, v2, v3, v4, v5, v6, v7]))] ∧ pz ed (va_A [(h0, .inr (11, [v0, v1, v2, v3, v4, v5, v6, v7]))] sz) U U.heap)) (va_Qi (fun (_ : Int32) (_ : Unit) => False) (fun (_ : Unit) (_ : State) => True) (va_A [(h0, .inr (11, [v0, v1, v2, v3, v4, v5, v6, v7]))] sz)) (vx_X px_T (fun (E : String) (_ : Unit) (t : State) => E = "java/lang/IllegalArgumentException" ∧ va_P (dC, dI) vwCl [(h0, .inr (11, [v0, v1, v2, v3, v4, v5, v6, v7]))] t.heap ∧ va_K (dC, dI) vwCl [] t ∧ va_D (va_A [(h0, .inr (11, [v0, v1, v2, v3, v4, v5, v6, v7]))] sz) [(h0, .inr (11, [v0, v1, v2, v3, v4, v5, v6, v7]))]) (va_A [(h0, .inr (11, [v0, v1, v2, v3, v4, v5, v6, v7]))] sz)) 1 6 (va_A [(h0, .inr (11, [v0, v1, v2, v3, v4, v5, v6, v7]))] sz) := by
  refine vx_ofW (cc := cX6_type) (maxL := 2) (ret := (some .int)) (by decide) rfl ?_
  intro p e s m args below meth c s₁ B hml htab hv
  obtain ⟨rfl, hsz, hP, hK, hD0, hZ⟩ := hv
  have hx := B.exec
  have hb := B.bytes
  have hr := B.returns
  have hts0 := atoms_spec (ws := (pw_ws yX6_type cX6_type 2 (some .int))) B.pre
  have hts : ∀ w ∈ pw_all, w.before _ s = true := fun w h => hts0 w (List.mem_cons_of_mem _ h)
  have hown : s.vm.findClass RX6 = some m.cls := findClass_of_methodNamed B.named
  have hlocks := B.notSynchronized
  subst hsz
  have hD := hD0.self (sz := s.heap.size)
  generalize hAe : va_A [(h0, .inr (11, [v0, v1, v2, v3, v4, v5, v6, v7]))] s.heap.size = A at hD hZ ⊢
  have hA : ∀ q : Nat, s.heap.size ≤ q → A q := fun q h => by rw [← hAe]; exact Or.inr h
  have hS : va_S A s.heap s.heap [] := va_S.rf
  have hP : va_P (dC, dI) vwCl [(h0, .inr (11, [v0, v1, v2, v3, v4, v5, v6, v7]))] s.heap := hP
  have hl := lv_entry ([.ref h0, .int p0]) (n := 2) (Nat.le_of_ble_eq_true rfl)
  rw [lg_entry_eq]
  generalize (lg_sl ([.ref h0, .int p0]) ++ List.replicate (2 - (lg_sl ([.ref h0, .int p0])).length) Slot.unset).toArray = ls at hl ⊢
  have hl : lv_has ls 2 [(0, .ref h0), (1, .int p0)] := hl
  skip
  refine lv_iload_n hx hb dX6_type_0 rfl (lv_at hl 1 rfl) ?_
  refine lv_ldcw (v := -99999) hx hb hown (hts _ q1106) dX6_type_1 ?_
  refine lv_ldc (v := 99999) hx hb hown (hts _ q751) dX6_type_4 ?_
  have hPc := hP.sub (ws' := []) [] rfl
  have hDc := hD.sub (ws' := []) [] (by decide) rfl
  have hKc := hK.sub (tys' := []) [] rfl
  have hFc := va_free (wc := []) hD hS hA [] rfl
  refine vx_callv (vx_runS (As := [.int p0, .int (-99999), .int 99999]) (rest := []) ⟨hx, hb, hml, hown, hts⟩ (o_rangeBad l hl9 dC dI s.heap.size ed p0 (-99999) 99999 h1) (va_cwS 3 hts (pw_S q528 q529 q43 q530) rfl rfl rfl (by decide +kernel) ⟨(Nat.le_of_ble_eq_true rfl), (Nat.le_of_ble_eq_true rfl)⟩) ⟨fun a U g mk q => by obtain ⟨q0, q1, qP, qK, qD, qZ⟩ := q; exact ⟨q0, q1, qP, va_K.moved (u := U) (U := U.calling g mk a) (Vm.Alike.refl U.vm) qK, qD, qZ.same rfl⟩, fun U hU hW => ⟨rfl, by rw [hU], by rw [hU]; exact hPc, va_K.moved hW.alike hKc, hDc.weaken (fun _ _ _ _ => trivial), hZ.call hS hFc hU hW⟩⟩ rfl rfl hl.1 rfl (lv_room (Nat.le_of_ble_eq_true rfl)) dX6_type_6 ⟨(Nat.le_of_ble_eq_true rfl), (Nat.le_of_ble_eq_true rfl)⟩) hS (fun q _ h => hFc q h) hFc (fun q _ h => hFc q h) (fun E ce q9 u t H1 locs ht hvm hw hB hz1 hk1 hS hce hcv hcl => ?_) (fun u t H1 locs ht hvm hw hB hz1 hk1 hS => hw.elim)
  obtain ⟨rfl, hP1, hK1, hD1⟩ := hB
  rw [ht] at hP1
  have hK1 := va_K.moved hvm.symm hK1
  obtain ⟨hP, hD⟩ := va_join (wr := [(h0, .inr (11, [v0, v1, v2, v3, v4, v5, v6, v7]))]) (w1 := []) hP hD [] [0] rfl rfl (by decide) (by decide) hk1 hFc hP1 hD1
  have hK := (hK.sub (tys' := []) [] rfl).app hK1
  generalize H1 = H at hP hS hce ⊢
  have hP : va_P (dC, dI) vwCl [(h0, .inr (11, [v0, v1, v2, v3, v4, v5, v6, v7]))] H := hP
  have hD : va_D A [(h0, .inr (11, [v0, v1, v2, v3, v4, v5, v6, v7]))] := hD
  have hK : va_K (dC, dI) vwCl [] s := hK
  have hP9 := hP.sub (ws' := [(h0, .inr (11, [v0, v1, v2, v3, v4, v5, v6, v7]))]) [0] rfl
  have hD9 := hD.sub (ws' := [(h0, .inr (11, [v0, v1, v2, v3, v4, v5, v6, v7]))]) [0] (by decide) rfl
  have hK9 := hK.sub (tys' := []) [] rfl
  exact vx_out (fun x hx => (htab x hx).elim) hlocks hce hcv hcl (fun t ht ha => ⟨(), trivial, ⟨rfl, by rw [ht]; exact hP9, va_K.moved ha hK9, hD9⟩, hS.F ht⟩) hS.2.2 (Nat.le_of_ble_eq_true rfl) (Nat.le_of_ble_eq_true rfl)
set_option maxHeartbeats 4000000 in
set_option maxRecDepth 100000 in
theorem o_wipe (l : Launch) (dC : Nat → ClassId) (dI : Nat → Nat → Nat) (sz : Nat) (h0 : Nat) (v0 : Value) (v1 : Value) (v2 : Value) (v3 : Value) (v4 : Value) (v6 : Value) (v7 : Value) : Met l yX6_wipe (pw_ws yX6_wipe cX6_wipe 2 (some .int)) ({ frames := 1, cells := 0, slots := 0, locals := 20 } : Room) (va_Pc [.ref h0] (fun U => U.heap.size = sz ∧ va_P (dC, dI) vwCl [(h0, .inr (11, [v0, v1, v2, v3, v4, .int 0, v6, v7]))] U.heap ∧ va_K (dC, dI) vwCl [] U ∧ va_D (fun _ => True) [(h0, .inr (11, [v0, v1, v2, v3, v4, .int 0, v6, v7]))])) (va_Qi (fun (r : Int32) (_ : Unit) => r = 0) (fun (_ : Unit) (t : State) => va_P (dC, dI) vwCl [(h0, .inr (11, [v0, v1, v2, v3, v4, .int 0, v6, v7]))] t.heap ∧ va_K (dC, dI) vwCl [] t ∧ va_D (va_A [(h0, .inr (11, [v0, v1, v2, v3, v4, .int 0, v6, v7]))] sz) [(h0, .inr (11, [v0, v1, v2, v3, v4, .int 0, v6, v7]))]) (va_A [(h0, .inr (11, [v0, v1, v2, v3, v4, .int 0, v6, v7]))] sz)) 0 0 (va_A [(h0, .inr (11, [v0, v1, v2, v3, v4, .int 0, v6, v7]))] sz) := by
  refine Met.ofW (cc := cX6_wipe) (maxL := 2) (ret := (some .int)) (by decide) rfl ?_
  intro p e s m args below meth c s₁ B hml hv
  obtain ⟨rfl, hsz, hP, hK, hD0⟩ := hv
  have hx := B.exec
  have hb := B.bytes
  have hr := B.returns
  have hts0 := atoms_spec (ws := (pw_ws yX6_wipe cX6_wipe 2 (some .int))) B.pre
  have hts : ∀ w ∈ pw_all, w.before _ s = true := fun w h => hts0 w (List.mem_cons_of_mem _ h)
  have hown : s.vm.findClass RX6 = some m.cls := findClass_of_methodNamed B.named
  have hlocks := B.notSynchronized
  subst hsz
  have hD := hD0.self (sz := s.heap.size)
  generalize hAe : va_A [(h0, .inr (11, [v0, v1, v2, v3, v4, .int 0, v6, v7]))] s.heap.size = A at hD ⊢
  have hA : ∀ q : Nat, s.heap.size ≤ q → A q := fun q h => by rw [← hAe]; exact Or.inr h
  have hS : va_S A s.heap s.heap [] := va_S.rf
  have hP : va_P (dC, dI) vwCl [(h0, .inr (11, [v0, v1, v2, v3, v4, .int 0, v6, v7]))] s.heap := hP
  have hl := lv_entry ([.ref h0]) (n := 2) (Nat.le_of_ble_eq_true rfl)
  rw [lg_entry_eq]
  generalize (lg_sl ([.ref h0]) ++ List.replicate (2 - (lg_sl ([.ref h0])).length) Slot.unset).toArray = ls at hl ⊢
  have hl : lv_has ls 2 [(0, .ref h0)] := hl
  skip
  refine lv_aload_n hx hb dX6_wipe_0 rfl (lv_at hl 0 rfl) ?_
  refine va_get (D := (dC, dI)) (ci := 11) (v := .int 0) (C := RX6) (T := TX6) (N := 8) hx hb hts inX6 hown hK hP 0 rfl rfl 5 (by decide) (hts _ q198) (fun _ h9 => h9) rfl dX6_wipe_1 ?_
  refine lv_istore_n (lv' := [(1, .int 0), (0, .ref h0)]) hx hb dX6_wipe_4 rfl hl (by decide) rfl (fun ls hl => ?_)
  refine lv_aload_n hx hb dX6_wipe_5 rfl (lv_at hl 1 rfl) ?_
  refine lv_iconst (v := 0) hx hb dX6_wipe_6 (by decide) ?_
  refine va_put (D := (dC, dI)) (ci := 11) (v := .int 0) (ty := .int) (C := RX6) (T := TX6) (N := 8) hx hb hts inX6 tyX6 tyX6_ok nmX6 hown hK hP hD hS 0 rfl rfl 5 (by decide) (hts _ q198) (fun _ h9 => h9) rfl (by decide +kernel) rfl rfl (Nat.le_of_ble_eq_true rfl) dX6_wipe_7 (fun H locs hP hD hS => ?_)
  have hP : va_P (dC, dI) vwCl [(h0, .inr (11, [v0, v1, v2, v3, v4, .int 0, v6, v7]))] H := hP
  have hD : va_D A [(h0, .inr (11, [v0, v1, v2, v3, v4, .int 0, v6, v7]))] := hD
  refine lv_iload_n hx hb dX6_wipe_10 rfl (lv_at hl 0 rfl) ?_
  have hP9 := hP.sub (ws' := [(h0, .inr (11, [v0, v1, v2, v3, v4, .int 0, v6, v7]))]) [0] rfl
  have hD9 := hD.sub (ws' := [(h0, .inr (11, [v0, v1, v2, v3, v4, .int 0, v6, v7]))]) [0] (by decide) rfl
  have hK9 := hK.sub (tys' := []) [] rfl
  refine W.widen (k := 0) (n := 0) (Nat.le_of_ble_eq_true rfl) (Nat.le_of_ble_eq_true rfl) ?_
  exact W.iret (v := 0) hx hb hr (fun t ht hW => ⟨⟨0, (), rfl, rfl, ⟨by rw [ht]; exact hP9, va_K.moved hW.alike hK9, hD9⟩⟩, hS.F ht⟩) hS.2.2 dX6_wipe_11
set_option maxHeartbeats 4000000 in
set_option maxRecDepth 100000 in
theorem o_spectrumBad (l : Launch) (hl9 : l.stackTraces = false) (dC : Nat → ClassId) (dI : Nat → Nat → Nat) (sz : Nat) (ed : Nat) (h0 : Nat) (v0 : Value) (v1 : Value) (v2 : Value) (v3 : Value) (v4 : Value) (v6 : Value) (v7 : Value) (p0 : Int32) (h1 : p0 < 4 ∨ ¬ p0 ≤ 64) : vx_Met l yX6_getSpectrum (pw_ws yX6_getSpectrum cX6_getSpectrum 4 (some .int)) ({ frames := 8, cells := 1, slots := 6, locals := 142 } : Room) (va_Pc [.ref h0, .int p0] (fun U => U.heap.size = sz ∧ va_P (dC, dI) vwCl [(h0, .inr (11, [v0, v1, v2, v3, v4, .int 0, v6, v7]))] U.heap ∧ va_K (dC, dI) vwCl [] U ∧ va_D (fun _ => True) [(h0, .inr (11, [v0, v1, v2, v3, v4, .int 0, v6, v7]))] ∧ pz ed (va_A [(h0, .inr (11, [v0, v1, v2, v3, v4, .int 0, v6, v7]))] sz) U U.heap)) (va_Qi (fun (_ : Int32) (_ : Unit) => False) (fun (_ : Unit) (_ : State) => True) (va_A [(h0, .inr (11, [v0, v1, v2, v3, v4, .int 0, v6, v7]))] sz)) (vx_X px_T (fun (E : String) (_ : Unit) (t : State) => E = "java/lang/IllegalArgumentException" ∧ va_P (dC, dI) vwCl [(h0, .inr (11, [v0, v1, v2, v3, v4, .int 0, v6, v7]))] t.heap ∧ va_K (dC, dI) vwCl [] t ∧ va_D (va_A [(h0, .inr (11, [v0, v1, v2, v3, v4, .int 0, v6, v7]))] sz) [(h0, .inr (11, [v0, v1, v2, v3, v4, .int 0, v6, v7]))]) (va_A [(h0, .inr (11, [v0, v1, v2, v3, v4, .int 0, v6, v7]))] sz)) 1 6 (va_A [(h0, .inr (11, [v0, v1, v2, v3, v4, .int 0, v6, v7]))] sz) := by
  refine vx_ofW (cc := cX6_getSpectrum) (maxL := 4) (ret := (some .int)) (by decide) rfl ?_
  intro p e s m args below meth c s₁ B hml htab hv
  obtain ⟨rfl, hsz, hP, hK, hD0, hZ⟩ := hv
  have hx := B.exec
  have hb := B.bytes
  have hr := B.returns
  have hts0 := atoms_spec (ws := (pw_ws yX6_getSpectrum cX6_getSpectrum 4 (some .int))) B.pre
  have hts : ∀ w ∈ pw_all, w.before _ s = true := fun w h => hts0 w (List.mem_cons_of_mem _ h)
  have hown : s.vm.findClass RX6 = some m.cls := findClass_of_methodNamed B.named
  have hlocks := B.notSynchronized
  subst hsz
  have hD := hD0.self (sz := s.heap.size)
  generalize hAe : va_A [(h0, .inr (11, [v0, v1, v2, v3, v4, .int 0, v6, v7]))] s.heap.size = A at hD hZ ⊢
  have hA : ∀ q : Nat, s.heap.size ≤ q → A q := fun q h => by rw [← hAe]; exact Or.inr h
  have hS : va_S A s.heap s.heap [] := va_S.rf
  have hP : va_P (dC, dI) vwCl [(h0, .inr (11, [v0, v1, v2, v3, v4, .int 0, v6, v7]))] s.heap := hP
  have hl := lv_entry ([.ref h0, .int p0]) (n := 4) (Nat.le_of_ble_eq_true rfl)
  rw [lg_entry_eq]
  generalize (lg_sl ([.ref h0, .int p0]) ++ List.replicate (4 - (lg_sl ([.ref h0, .int p0])).length) Slot.unset).toArray = ls at hl ⊢
  have hl : lv_has ls 4 [(0, .ref h0), (1, .int p0)] := hl
  skip
  refine lv_iload_n hx hb dX6_getSpectrum_0 rfl (lv_at hl 1 rfl) ?_
  have hPc := hP.sub (ws' := []) [] rfl
  have hDc := hD.sub (ws' := []) [] (by decide) rfl
  have hKc := hK.sub (tys' := []) [] rfl
  have hFc := va_free (wc := []) hD hS hA [] rfl
  refine vx_callv (vx_runS (As := [.int p0]) (rest := []) ⟨hx, hb, hml, hown, hts⟩ (o_periodBad l hl9 dC dI s.heap.size ed p0 h1) (va_cwS 1 hts (pw_S q582 q583 q43 q584) rfl rfl rfl (by decide +kernel) ⟨(Nat.le_of_ble_eq_true rfl), (Nat.le_of_ble_eq_true rfl)⟩) ⟨fun a U g mk q => by obtain ⟨q0, q1, qP, qK, qD, qZ⟩ := q; exact ⟨q0, q1, qP, va_K.moved (u := U) (U := U.calling g mk a) (Vm.Alike.refl U.vm) qK, qD, qZ.same rfl⟩, fun U hU hW => ⟨rfl, by rw [hU], by rw [hU]; exact hPc, va_K.moved hW.alike hKc, hDc.weaken (fun _ _ _ _ => trivial), hZ.call hS hFc hU hW⟩⟩ rfl rfl hl.1 rfl (lv_room (Nat.le_of_ble_eq_true rfl)) dX6_getSpectrum_1 ⟨(Nat.le_of_ble_eq_true rfl), (Nat.le_of_ble_eq_true rfl)⟩) hS (fun q _ h => hFc q h) hFc (fun q _ h => hFc q h) (fun E ce q9 u t H1 locs ht hvm hw hB hz1 hk1 hS hce hcv hcl => ?_) (fun u t H1 locs ht hvm hw hB hz1 hk1 hS => hw.elim)
  obtain ⟨rfl, hP1, hK1, hD1⟩ := hB
  rw [ht] at hP1
  have hK1 := va_K.moved hvm.symm hK1
  obtain ⟨hP, hD⟩ := va_join (wr := [(h0, .inr (11, [v0, v1, v2, v3, v4, .int 0, v6, v7]))]) (w1 := []) hP hD [] [0] rfl rfl (by decide) (by decide) hk1 hFc hP1 hD1
  have hK := (hK.sub (tys' := []) [] rfl).app hK1
  generalize H1 = H at hP hS hce ⊢
  have hP : va_P (dC, dI) vwCl [(h0, .inr (11, [v0, v1, v2, v3, v4, .int 0, v6, v7]))] H := hP
  have hD : va_D A [(h0, .inr (11, [v0, v1, v2, v3, v4, .int 0, v6, v7]))] := hD
  have hK : va_K (dC, dI) vwCl [] s := hK
  have hP9 := hP.sub (ws' := [(h0, .inr (11, [v0, v1, v2, v3, v4, .int 0, v6, v7]))]) [0] rfl
  have hD9 := hD.sub (ws' := [(h0, .inr (11, [v0, v1, v2, v3, v4, .int 0, v6, v7]))]) [0] (by decide) rfl
  have hK9 := hK.sub (tys' := []) [] rfl
  exact vx_out (fun x hx => (htab x hx).elim) hlocks hce hcv hcl (fun t ht ha => ⟨(), trivial, ⟨rfl, by rw [ht]; exact hP9, va_K.moved ha hK9, hD9⟩, hS.F ht⟩) hS.2.2 (Nat.le_of_ble_eq_true rfl) (Nat.le_of_ble_eq_true rfl)
set_option maxHeartbeats 4000000 in
set_option maxRecDepth 100000 in
theorem o_spectrumOk (l : Launch) (hl9 : l.stackTraces = false) (dC : Nat → ClassId) (dI : Nat → Nat → Nat) (sz : Nat) (ed : Nat) (h0 : Nat) (v0 : Value) (v1 : Value) (v2 : Value) (v3 : Value) (v4 : Value) (v6 : Value) (v7 : Value) (p0 : Int32) (h1 : ¬ p0 < 4) (h2 : p0 ≤ 64) : vx_Met l yX6_getSpectrum (pw_ws yX6_getSpectrum cX6_getSpectrum 4 (some .int)) ({ frames := 7, cells := 1, slots := 6, locals := 120 } : Room) (va_Pc [.ref h0, .int p0] (fun U => U.heap.size = sz ∧ va_P (dC, dI) vwCl [(h0, .inr (11, [v0, v1, v2, v3, v4, .int 0, v6, v7]))] U.heap ∧ va_K (dC, dI) vwCl [] U ∧ va_D (fun _ => True) [(h0, .inr (11, [v0, v1, v2, v3, v4, .int 0, v6, v7]))] ∧ pz ed (va_A [(h0, .inr (11, [v0, v1, v2, v3, v4, .int 0, v6, v7]))] sz) U U.heap)) (va_Qi (fun (_ : Int32) (_ : Unit) => False) (fun (_ : Unit) (_ : State) => True) (va_A [(h0, .inr (11, [v0, v1, v2, v3, v4, .int 0, v6, v7]))] sz)) (vx_X px_T (fun (E : String) (_ : Unit) (t : State) => E = "java/lang/UnsupportedOperationException" ∧ va_P (dC, dI) vwCl [(h0, .inr (11, [v0, v1, v2, v3, v4, .int 0, v6, v7]))] t.heap ∧ va_K (dC, dI) vwCl [] t ∧ va_D (va_A [(h0, .inr (11, [v0, v1, v2, v3, v4, .int 0, v6, v7]))] sz) [(h0, .inr (11, [v0, v1, v2, v3, v4, .int 0, v6, v7]))]) (va_A [(h0, .inr (11, [v0, v1, v2, v3, v4, .int 0, v6, v7]))] sz)) 1 6 (va_A [(h0, .inr (11, [v0, v1, v2, v3, v4, .int 0, v6, v7]))] sz) := by
  refine vx_ofW (cc := cX6_getSpectrum) (maxL := 4) (ret := (some .int)) (by decide) rfl ?_
  intro p e s m args below meth c s₁ B hml htab hv
  obtain ⟨rfl, hsz, hP, hK, hD0, hZ⟩ := hv
  have hx := B.exec
  have hb := B.bytes
  have hr := B.returns
  have hts0 := atoms_spec (ws := (pw_ws yX6_getSpectrum cX6_getSpectrum 4 (some .int))) B.pre
  have hts : ∀ w ∈ pw_all, w.before _ s = true := fun w h => hts0 w (List.mem_cons_of_mem _ h)
  have hown : s.vm.findClass RX6 = some m.cls := findClass_of_methodNamed B.named
  have hlocks := B.notSynchronized
  subst hsz
  have hD := hD0.self (sz := s.heap.size)
  generalize hAe : va_A [(h0, .inr (11, [v0, v1, v2, v3, v4, .int 0, v6, v7]))] s.heap.size = A at hD hZ ⊢
  have hA : ∀ q : Nat, s.heap.size ≤ q → A q := fun q h => by rw [← hAe]; exact Or.inr h
  have hS : va_S A s.heap s.heap [] := va_S.rf
  have hP : va_P (dC, dI) vwCl [(h0, .inr (11, [v0, v1, v2, v3, v4, .int 0, v6, v7]))] s.heap := hP
  have hl := lv_entry ([.ref h0, .int p0]) (n := 4) (Nat.le_of_ble_eq_true rfl)
  rw [lg_entry_eq]
  generalize (lg_sl ([.ref h0, .int p0]) ++ List.replicate (4 - (lg_sl ([.ref h0, .int p0])).length) Slot.unset).toArray = ls at hl ⊢
  have hl : lv_has ls 4 [(0, .ref h0), (1, .int p0)] := hl
  skip
  refine lv_iload_n hx hb dX6_getSpectrum_0 rfl (lv_at hl 1 rfl) ?_
  have hPc := hP.sub (ws' := []) [] rfl
  have hDc := hD.sub (ws' := []) [] (by decide) rfl
  have hKc := hK.sub (tys' := []) [] rfl
  have hFc := va_free (wc := []) hD hS hA [] rfl
  refine va_callv (va_runS (As := [.int p0]) (rest := []) ⟨hx, hb, hml, hown, hts⟩ (o_periodOk l dC dI s.heap.size p0 h1 h2) (va_cwS 1 hts (pw_S q582 q583 q43 q584) rfl rfl rfl (by decide +kernel) ⟨(Nat.le_of_ble_eq_true rfl), (Nat.le_of_ble_eq_true rfl)⟩) ⟨fun a U g mk q => by obtain ⟨q0, q1, qP, qK, qD⟩ := q; exact ⟨q0, q1, qP, va_K.moved (u := U) (U := U.calling g mk a) (Vm.Alike.refl U.vm) qK, qD⟩, fun U hU hW => ⟨rfl, by rw [hU], by rw [hU]; exact hPc, va_K.moved hW.alike hKc, hDc.weaken (fun _ _ _ _ => trivial)⟩⟩ rfl rfl hl.1 rfl (lv_room (Nat.le_of_ble_eq_true rfl)) dX6_getSpectrum_1 ⟨(Nat.le_of_ble_eq_true rfl), (Nat.le_of_ble_eq_true rfl)⟩) hS (fun q _ h => hFc q h) hFc (fun u t H1 locs ht hvm hw hB hz1 hk1 hS => ?_)
  obtain ⟨hP1, hK1, hD1⟩ := hB
  rw [ht] at hP1
  have hK1 := va_K.moved hvm.symm hK1
  obtain ⟨hP, hD⟩ := va_join (wr := [(h0, .inr (11, [v0, v1, v2, v3, v4, .int 0, v6, v7]))]) (w1 := []) hP hD [] [0] rfl rfl (by decide) (by decide) hk1 hFc hP1 hD1
  have hK := (hK.sub (tys' := []) [] rfl).app hK1
  generalize H1 = H at hP hS ⊢
  have hP : va_P (dC, dI) vwCl [(h0, .inr (11, [v0, v1, v2, v3, v4, .int 0, v6, v7]))] H := hP
  have hD : va_D A [(h0, .inr (11, [v0, v1, v2, v3, v4, .int 0, v6, v7]))] := hD
  have hK : va_K (dC, dI) vwCl [] s := hK
  refine W.widen (k := 0) (n := 0) (Nat.le_of_ble_eq_true rfl) (Nat.le_of_ble_eq_true rfl) ?_
  refine lv_aload_n hx hb dX6_getSpectrum_4 rfl (lv_at hl 0 rfl) ?_
  have hPc := hP.sub (ws' := [(h0, .inr (11, [v0, v1, v2, v3, v4, .int 0, v6, v7]))]) [0] rfl
  have hDc := hD.sub (ws' := [(h0, .inr (11, [v0, v1, v2, v3, v4, .int 0, v6, v7]))]) [0] (by decide) rfl
  have hKc := hK.sub (tys' := []) [] rfl
  have hFc := va_free (wc := [(h0, .inr (11, [v0, v1, v2, v3, v4, .int 0, v6, v7]))]) hD hS hA [0] rfl
  refine vx_callv (vx_runV (As := []) (rest := []) ⟨hx, hb, hml, hown, hts⟩ (o_checkTyped l hl9 dC dI H.size ed h0 v0 v1 v2 v3 v4 v6 v7) (cwV 0 hts (pw_V q1115 q1117 q17 q43 q1118) rfl rfl rfl (by decide +kernel) ⟨(Nat.le_of_ble_eq_true rfl), (Nat.le_of_ble_eq_true rfl)⟩) ⟨fun a U g mk q => by obtain ⟨q0, q1, qP, qK, qD, qZ⟩ := q; exact ⟨q0, q1, qP, va_K.moved (u := U) (U := U.calling g mk a) (Vm.Alike.refl U.vm) qK, qD, qZ.same rfl⟩, va_recv hKc hPc (ci := 11) (q0 := 0) rfl rfl, fun U hU hW => ⟨rfl, by rw [hU], by rw [hU]; exact hPc, va_K.moved hW.alike hKc, hDc.weaken (fun _ _ _ _ => trivial), hZ.call hS hFc hU hW⟩⟩ rfl rfl hl.1 rfl (lv_room (Nat.le_of_ble_eq_true rfl)) dX6_getSpectrum_5 ⟨(Nat.le_of_ble_eq_true rfl), (Nat.le_of_ble_eq_true rfl)⟩) hS (fun q _ h => hFc q h) hFc (fun q _ h => hFc q h) (fun E ce q9 u t H1 locs ht hvm hw hB hz1 hk1 hS hce hcv hcl => ?_) (fun u t H1 locs ht hvm hw hB hz1 hk1 hS => hw.elim)
  obtain ⟨rfl, hP1, hK1, hD1⟩ := hB
  rw [ht] at hP1
  have hK1 := va_K.moved hvm.symm hK1
  obtain ⟨hP, hD⟩ := va_join (wr := []) (w1 := [(h0, .inr (11, [v0, v1, v2, v3, v4, .int 0, v6, v7]))]) hP hD [0] [] rfl rfl (by decide) (by decide) hk1 hFc hP1 hD1
  have hK := (hK.sub (tys' := []) [] rfl).app hK1
  generalize H1 = H at hP hS hce ⊢
  have hP : va_P (dC, dI) vwCl [(h0, .inr (11, [v0, v1, v2, v3, v4, .int 0, v6, v7]))] H := hP
  have hD : va_D A [(h0, .inr (11, [v0, v1, v2, v3, v4, .int 0, v6, v7]))] := hD
  have hK : va_K (dC, dI) vwCl [] s := hK
  have hP9 := hP.sub (ws' := [(h0, .inr (11, [v0, v1, v2, v3, v4, .int 0, v6, v7]))]) [0] rfl
  have hD9 := hD.sub (ws' := [(h0, .inr (11, [v0, v1, v2, v3, v4, .int 0, v6, v7]))]) [0] (by decide) rfl
  have hK9 := hK.sub (tys' := []) [] rfl
  exact vx_out (fun x hx => (htab x hx).elim) hlocks hce hcv hcl (fun t ht ha => ⟨(), trivial, ⟨rfl, by rw [ht]; exact hP9, va_K.moved ha hK9, hD9⟩, hS.F ht⟩) hS.2.2 (Nat.le_of_ble_eq_true rfl) (Nat.le_of_ble_eq_true rfl)
set_option maxHeartbeats 4000000 in
set_option maxRecDepth 100000 in
theorem o_rainClear (l : Launch) (dC : Nat → ClassId) (dI : Nat → Nat → Nat) (sz : Nat) (rr : Nat) (t1 : Nat) (t2 : Nat) : Met l yX1_clear (pw_ws yX1_clear cX1_clear 1 none) ({ frames := 1, cells := 0, slots := 0, locals := 20 } : Room) (va_Pc [.ref rr] (fun U => U.heap.size = sz ∧ va_P (dC, dI) vwCl [(rr, .inr (6, [.ref t1, .ref t2, .int 0, .int 0, .long 0, .long 0]))] U.heap ∧ va_K (dC, dI) vwCl [] U ∧ va_D (fun _ => True) [(rr, .inr (6, [.ref t1, .ref t2, .int 0, .int 0, .long 0, .long 0]))])) (va_Qv (fun (_ : Unit) => True) (fun (_ : Unit) (t : State) => va_P (dC, dI) vwCl [(rr, .inr (6, [.ref t1, .ref t2, .int 0, .int 0, .long 0, .long 0]))] t.heap ∧ va_K (dC, dI) vwCl [] t ∧ va_D (va_A [(rr, .inr (6, [.ref t1, .ref t2, .int 0, .int 0, .long 0, .long 0]))] sz) [(rr, .inr (6, [.ref t1, .ref t2, .int 0, .int 0, .long 0, .long 0]))]) (va_A [(rr, .inr (6, [.ref t1, .ref t2, .int 0, .int 0, .long 0, .long 0]))] sz)) 0 0 (va_A [(rr, .inr (6, [.ref t1, .ref t2, .int 0, .int 0, .long 0, .long 0]))] sz) := by
  refine Met.ofW (cc := cX1_clear) (maxL := 1) (ret := none) (by decide) rfl ?_
  intro p e s m args below meth c s₁ B hml hv
  obtain ⟨rfl, hsz, hP, hK, hD0⟩ := hv
  have hx := B.exec
  have hb := B.bytes
  have hr := B.returns
  have hts0 := atoms_spec (ws := (pw_ws yX1_clear cX1_clear 1 none)) B.pre
  have hts : ∀ w ∈ pw_all, w.before _ s = true := fun w h => hts0 w (List.mem_cons_of_mem _ h)
  have hown : s.vm.findClass RX1 = some m.cls := findClass_of_methodNamed B.named
  have hlocks := B.notSynchronized
  subst hsz
  have hD := hD0.self (sz := s.heap.size)
  generalize hAe : va_A [(rr, .inr (6, [.ref t1, .ref t2, .int 0, .int 0, .long 0, .long 0]))] s.heap.size = A at hD ⊢
  have hA : ∀ q : Nat, s.heap.size ≤ q → A q := fun q h => by rw [← hAe]; exact Or.inr h
  have hS : va_S A s.heap s.heap [] := va_S.rf
  have hP : va_P (dC, dI) vwCl [(rr, .inr (6, [.ref t1, .ref t2, .int 0, .int 0, .long 0, .long 0]))] s.heap := hP
  have hl := lv_entry ([.ref rr]) (n := 1) (Nat.le_of_ble_eq_true rfl)
  rw [lg_entry_eq]
  generalize (lg_sl ([.ref rr]) ++ List.replicate (1 - (lg_sl ([.ref rr])).length) Slot.unset).toArray = ls at hl ⊢
  have hl : lv_has ls 1 [(0, .ref rr)] := hl
  skip
  refine lv_aload_n hx hb dX1_clear_0 rfl (lv_at hl 0 rfl) ?_
  refine lv_iconst (v := 0) hx hb dX1_clear_1 (by decide) ?_
  refine va_put (D := (dC, dI)) (ci := 6) (v := .int 0) (ty := .int) (C := RX1) (T := TX1) (N := 6) hx hb hts inX1 tyX1 tyX1_ok nmX1 hown hK hP hD hS 0 rfl rfl 2 (by decide) (hts _ q125) (fun _ h9 => h9) rfl (by decide +kernel) rfl rfl (Nat.le_of_ble_eq_true rfl) dX1_clear_2 (fun H locs hP hD hS => ?_)
  have hP : va_P (dC, dI) vwCl [(rr, .inr (6, [.ref t1, .ref t2, .int 0, .int 0, .long 0, .long 0]))] H := hP
  have hD : va_D A [(rr, .inr (6, [.ref t1, .ref t2, .int 0, .int 0, .long 0, .long 0]))] := hD
  have hP9 := hP.sub (ws' := [(rr, .inr (6, [.ref t1, .ref t2, .int 0, .int 0, .long 0, .long 0]))]) [0] rfl
  have hD9 := hD.sub (ws' := [(rr, .inr (6, [.ref t1, .ref t2, .int 0, .int 0, .long 0, .long 0]))]) [0] (by decide) rfl
  have hK9 := hK.sub (tys' := []) [] rfl
  refine W.widen (k := 0) (n := 0) (Nat.le_of_ble_eq_true rfl) (Nat.le_of_ble_eq_true rfl) ?_
  exact W.vret hx hb hr (fun t ht hW => ⟨⟨(), rfl, trivial, ⟨by rw [ht]; exact hP9, va_K.moved hW.alike hK9, hD9⟩⟩, hS.F ht⟩) hS.2.2 dX1_clear_5
set_option maxHeartbeats 4000000 in
set_option maxRecDepth 100000 in
theorem o_rainGather (l : Launch) (dC : Nat → ClassId) (dI : Nat → Nat → Nat) (sz : Nat) (rr : Nat) (t1 : Nat) (t2 : Nat) : Met l yX1_gather (pw_ws yX1_gather cX1_gather 3 none) ({ frames := 1, cells := 0, slots := 0, locals := 20 } : Room) (va_Pc [.ref rr] (fun U => U.heap.size = sz ∧ va_P (dC, dI) vwCl [(rr, .inr (6, [.ref t1, .ref t2, .int 0, .int 0, .long 0, .long 0]))] U.heap ∧ va_K (dC, dI) vwCl [] U ∧ va_D (fun _ => True) [(rr, .inr (6, [.ref t1, .ref t2, .int 0, .int 0, .long 0, .long 0]))])) (va_Qv (fun (_ : Unit) => True) (fun (_ : Unit) (t : State) => va_P (dC, dI) vwCl [(rr, .inr (6, [.ref t1, .ref t2, .int 0, .int 0, .long 0, .long 0]))] t.heap ∧ va_K (dC, dI) vwCl [] t ∧ va_D (va_A [(rr, .inr (6, [.ref t1, .ref t2, .int 0, .int 0, .long 0, .long 0]))] sz) [(rr, .inr (6, [.ref t1, .ref t2, .int 0, .int 0, .long 0, .long 0]))]) (va_A [(rr, .inr (6, [.ref t1, .ref t2, .int 0, .int 0, .long 0, .long 0]))] sz)) 0 0 (va_A [(rr, .inr (6, [.ref t1, .ref t2, .int 0, .int 0, .long 0, .long 0]))] sz) := by
  refine Met.ofW (cc := cX1_gather) (maxL := 3) (ret := none) (by decide) rfl ?_
  intro p e s m args below meth c s₁ B hml hv
  obtain ⟨rfl, hsz, hP, hK, hD0⟩ := hv
  have hx := B.exec
  have hb := B.bytes
  have hr := B.returns
  have hts0 := atoms_spec (ws := (pw_ws yX1_gather cX1_gather 3 none)) B.pre
  have hts : ∀ w ∈ pw_all, w.before _ s = true := fun w h => hts0 w (List.mem_cons_of_mem _ h)
  have hown : s.vm.findClass RX1 = some m.cls := findClass_of_methodNamed B.named
  have hlocks := B.notSynchronized
  subst hsz
  have hD := hD0.self (sz := s.heap.size)
  generalize hAe : va_A [(rr, .inr (6, [.ref t1, .ref t2, .int 0, .int 0, .long 0, .long 0]))] s.heap.size = A at hD ⊢
  have hA : ∀ q : Nat, s.heap.size ≤ q → A q := fun q h => by rw [← hAe]; exact Or.inr h
  have hS : va_S A s.heap s.heap [] := va_S.rf
  have hP : va_P (dC, dI) vwCl [(rr, .inr (6, [.ref t1, .ref t2, .int 0, .int 0, .long 0, .long 0]))] s.heap := hP
  have hl := lv_entry ([.ref rr]) (n := 3) (Nat.le_of_ble_eq_true rfl)
  rw [lg_entry_eq]
  generalize (lg_sl ([.ref rr]) ++ List.replicate (3 - (lg_sl ([.ref rr])).length) Slot.unset).toArray = ls at hl ⊢
  have hl : lv_has ls 3 [(0, .ref rr)] := hl
  skip
  refine lv_aload_n hx hb dX1_gather_0 rfl (lv_at hl 0 rfl) ?_
  refine lv_iconst (v := 0) hx hb dX1_gather_1 (by decide) ?_
  refine va_put (D := (dC, dI)) (ci := 6) (v := .int 0) (ty := .int) (C := RX1) (T := TX1) (N := 6) hx hb hts inX1 tyX1 tyX1_ok nmX1 hown hK hP hD hS 0 rfl rfl 3 (by decide) (hts _ q126) (fun _ h9 => h9) rfl (by decide +kernel) rfl rfl (Nat.le_of_ble_eq_true rfl) dX1_gather_2 (fun H locs hP hD hS => ?_)
  have hP : va_P (dC, dI) vwCl [(rr, .inr (6, [.ref t1, .ref t2, .int 0, .int 0, .long 0, .long 0]))] H := hP
  have hD : va_D A [(rr, .inr (6, [.ref t1, .ref t2, .int 0, .int 0, .long 0, .long 0]))] := hD
  refine lv_aload_n hx hb dX1_gather_5 rfl (lv_at hl 0 rfl) ?_
  refine lv_lconst (v := 0) hx hb dX1_gather_6 (by decide) ?_
  refine va_put (D := (dC, dI)) (ci := 6) (v := .long 0) (ty := .long) (C := RX1) (T := TX1) (N := 6) hx hb hts inX1 tyX1 tyX1_ok nmX1 hown hK hP hD hS 0 rfl rfl 4 (by decide) (hts _ q128) (fun _ h9 => h9) rfl (by decide +kernel) rfl rfl (Nat.le_of_ble_eq_true rfl) dX1_gather_7 (fun H locs hP hD hS => ?_)
  have hP : va_P (dC, dI) vwCl [(rr, .inr (6, [.ref t1, .ref t2, .int 0, .int 0, .long 0, .long 0]))] H := hP
  have hD : va_D A [(rr, .inr (6, [.ref t1, .ref t2, .int 0, .int 0, .long 0, .long 0]))] := hD
  refine lv_aload_n hx hb dX1_gather_10 rfl (lv_at hl 0 rfl) ?_
  refine lv_lconst (v := 0) hx hb dX1_gather_11 (by decide) ?_
  refine va_put (D := (dC, dI)) (ci := 6) (v := .long 0) (ty := .long) (C := RX1) (T := TX1) (N := 6) hx hb hts inX1 tyX1 tyX1_ok nmX1 hown hK hP hD hS 0 rfl rfl 5 (by decide) (hts _ q129) (fun _ h9 => h9) rfl (by decide +kernel) rfl rfl (Nat.le_of_ble_eq_true rfl) dX1_gather_12 (fun H locs hP hD hS => ?_)
  have hP : va_P (dC, dI) vwCl [(rr, .inr (6, [.ref t1, .ref t2, .int 0, .int 0, .long 0, .long 0]))] H := hP
  have hD : va_D A [(rr, .inr (6, [.ref t1, .ref t2, .int 0, .int 0, .long 0, .long 0]))] := hD
  refine lv_iconst (v := 0) hx hb dX1_gather_15 (by decide) ?_
  refine lv_istore_n (lv' := [(1, .int 0), (0, .ref rr)]) hx hb dX1_gather_16 rfl hl (by decide) rfl (fun ls hl => ?_)
  refine lv_iconst (v := 0) hx hb dX1_gather_17 (by decide) ?_
  refine lv_istore_n (lv' := [(2, .int 0), (1, .int 0), (0, .ref rr)]) hx hb dX1_gather_18 rfl hl (by decide) rfl (fun ls hl => ?_)
  refine lv_iload_n hx hb dX1_gather_19 rfl (lv_at hl 0 rfl) ?_
  refine lv_aload_n hx hb dX1_gather_20 rfl (lv_at hl 2 rfl) ?_
  refine va_get (D := (dC, dI)) (ci := 6) (v := .int 0) (C := RX1) (T := TX1) (N := 6) hx hb hts inX1 hown hK hP 0 rfl rfl 2 (by decide) (hts _ q125) (fun _ h9 => h9) rfl dX1_gather_21 ?_
  refine lv_icmp_ge (tgt := 53) hx hb dX1_gather_24 (by decide) (fun c_174 => ?_) (fun c_174 => absurd (by decide) c_174)
  refine lv_iconst (v := 1) hx hb dX1_gather_53 (by decide) ?_
  refine lv_istore_n (lv' := [(2, .int 1), (1, .int 0), (0, .ref rr)]) hx hb dX1_gather_54 rfl hl (by decide) rfl (fun ls hl => ?_)
  refine lv_iload_n hx hb dX1_gather_55 rfl (lv_at hl 0 rfl) ?_
  refine lv_iload_n hx hb dX1_gather_56 rfl (lv_at hl 1 rfl) ?_
  refine lv_icmp_ge (tgt := 83) hx hb dX1_gather_57 (by decide) (fun c_175 => ?_) (fun c_175 => absurd (by decide) c_175)
  have hP9 := hP.sub (ws' := [(rr, .inr (6, [.ref t1, .ref t2, .int 0, .int 0, .long 0, .long 0]))]) [0] rfl
  have hD9 := hD.sub (ws' := [(rr, .inr (6, [.ref t1, .ref t2, .int 0, .int 0, .long 0, .long 0]))]) [0] (by decide) rfl
  have hK9 := hK.sub (tys' := []) [] rfl
  refine W.widen (k := 0) (n := 0) (Nat.le_of_ble_eq_true rfl) (Nat.le_of_ble_eq_true rfl) ?_
  exact W.vret hx hb hr (fun t ht hW => ⟨⟨(), rfl, trivial, ⟨by rw [ht]; exact hP9, va_K.moved hW.alike hK9, hD9⟩⟩, hS.F ht⟩) hS.2.2 dX1_gather_83
set_option maxHeartbeats 4000000 in
set_option maxRecDepth 100000 in
theorem o_rainDamage (l : Launch) (dC : Nat → ClassId) (dI : Nat → Nat → Nat) (sz : Nat) (rr : Nat) (t1 : Nat) (t2 : Nat) : Met l yX1_damage (pw_ws yX1_damage cX1_damage 1 (some .long)) ({ frames := 1, cells := 0, slots := 0, locals := 20 } : Room) (va_Pc [.ref rr] (fun U => U.heap.size = sz ∧ va_P (dC, dI) vwCl [(rr, .inr (6, [.ref t1, .ref t2, .int 0, .int 0, .long 0, .long 0]))] U.heap ∧ va_K (dC, dI) vwCl [] U ∧ va_D (fun _ => True) [(rr, .inr (6, [.ref t1, .ref t2, .int 0, .int 0, .long 0, .long 0]))])) (va_Ql (fun (r : Int64) (_ : Unit) => r = 0) (fun (_ : Unit) (t : State) => va_P (dC, dI) vwCl [(rr, .inr (6, [.ref t1, .ref t2, .int 0, .int 0, .long 0, .long 0]))] t.heap ∧ va_K (dC, dI) vwCl [] t ∧ va_D (va_A [(rr, .inr (6, [.ref t1, .ref t2, .int 0, .int 0, .long 0, .long 0]))] sz) [(rr, .inr (6, [.ref t1, .ref t2, .int 0, .int 0, .long 0, .long 0]))]) (va_A [(rr, .inr (6, [.ref t1, .ref t2, .int 0, .int 0, .long 0, .long 0]))] sz)) 0 0 (va_A [(rr, .inr (6, [.ref t1, .ref t2, .int 0, .int 0, .long 0, .long 0]))] sz) := by
  refine Met.ofW (cc := cX1_damage) (maxL := 1) (ret := (some .long)) (by decide) rfl ?_
  intro p e s m args below meth c s₁ B hml hv
  obtain ⟨rfl, hsz, hP, hK, hD0⟩ := hv
  have hx := B.exec
  have hb := B.bytes
  have hr := B.returns
  have hts0 := atoms_spec (ws := (pw_ws yX1_damage cX1_damage 1 (some .long))) B.pre
  have hts : ∀ w ∈ pw_all, w.before _ s = true := fun w h => hts0 w (List.mem_cons_of_mem _ h)
  have hown : s.vm.findClass RX1 = some m.cls := findClass_of_methodNamed B.named
  have hlocks := B.notSynchronized
  subst hsz
  have hD := hD0.self (sz := s.heap.size)
  generalize hAe : va_A [(rr, .inr (6, [.ref t1, .ref t2, .int 0, .int 0, .long 0, .long 0]))] s.heap.size = A at hD ⊢
  have hA : ∀ q : Nat, s.heap.size ≤ q → A q := fun q h => by rw [← hAe]; exact Or.inr h
  have hS : va_S A s.heap s.heap [] := va_S.rf
  have hP : va_P (dC, dI) vwCl [(rr, .inr (6, [.ref t1, .ref t2, .int 0, .int 0, .long 0, .long 0]))] s.heap := hP
  have hl := lv_entry ([.ref rr]) (n := 1) (Nat.le_of_ble_eq_true rfl)
  rw [lg_entry_eq]
  generalize (lg_sl ([.ref rr]) ++ List.replicate (1 - (lg_sl ([.ref rr])).length) Slot.unset).toArray = ls at hl ⊢
  have hl : lv_has ls 1 [(0, .ref rr)] := hl
  skip
  refine lv_aload_n hx hb dX1_damage_0 rfl (lv_at hl 0 rfl) ?_
  refine va_get (D := (dC, dI)) (ci := 6) (v := .long 0) (C := RX1) (T := TX1) (N := 6) hx hb hts inX1 hown hK hP 0 rfl rfl 4 (by decide) (hts _ q128) (fun _ h9 => h9) rfl dX1_damage_1 ?_
  refine lv_aload_n hx hb dX1_damage_4 rfl (lv_at hl 0 rfl) ?_
  refine va_get (D := (dC, dI)) (ci := 6) (v := .long 0) (C := RX1) (T := TX1) (N := 6) hx hb hts inX1 hown hK hP 0 rfl rfl 5 (by decide) (hts _ q129) (fun _ h9 => h9) rfl dX1_damage_5 ?_
  refine lv_ldc2 (v := 2) hx hb hown (hts _ q267) dX1_damage_8 ?_
  refine lv_ldiv hx hb dX1_damage_11 (by decide) ?_
  refine lv_numL (v := 0) (by decide) ?_
  refine lv_ladd hx hb dX1_damage_12 ?_
  refine lv_numL (v := 0) (by decide) ?_
  have hP9 := hP.sub (ws' := [(rr, .inr (6, [.ref t1, .ref t2, .int 0, .int 0, .long 0, .long 0]))]) [0] rfl
  have hD9 := hD.sub (ws' := [(rr, .inr (6, [.ref t1, .ref t2, .int 0, .int 0, .long 0, .long 0]))]) [0] (by decide) rfl
  have hK9 := hK.sub (tys' := []) [] rfl
  refine W.widen (k := 0) (n := 0) (Nat.le_of_ble_eq_true rfl) (Nat.le_of_ble_eq_true rfl) ?_
  exact W.lret (v := 0) hx hb hr (fun t ht hW => ⟨⟨0, (), rfl, rfl, ⟨by rw [ht]; exact hP9, va_K.moved hW.alike hK9, hD9⟩⟩, hS.F ht⟩) hS.2.2 dX1_damage_13
set_option maxHeartbeats 4000000 in
set_option maxRecDepth 100000 in
theorem o_gatherTyped (l : Launch) (dC : Nat → ClassId) (dI : Nat → Nat → Nat) (sz : Nat) (h0 : Nat) (rr : Nat) (t1 : Nat) (t2 : Nat) (v0 : Value) (v1 : Value) (v2 : Value) (v3 : Value) (v4 : Value) (v7 : Value) : Met l yX6_gatherTyped (pw_ws yX6_gatherTyped cX6_gatherTyped 2 none) ({ frames := 2, cells := 0, slots := 0, locals := 42 } : Room) (va_Pc [.ref h0] (fun U => U.heap.size = sz ∧ va_P (dC, dI) vwCl [(h0, .inr (11, [v0, v1, v2, v3, v4, .int 0, .ref rr, v7])), (rr, .inr (6, [.ref t1, .ref t2, .int 0, .int 0, .long 0, .long 0]))] U.heap ∧ va_K (dC, dI) vwCl [] U ∧ va_D (fun _ => True) [(h0, .inr (11, [v0, v1, v2, v3, v4, .int 0, .ref rr, v7])), (rr, .inr (6, [.ref t1, .ref t2, .int 0, .int 0, .long 0, .long 0]))])) (va_Qv (fun (_ : Unit) => True) (fun (_ : Unit) (t : State) => va_P (dC, dI) vwCl [(h0, .inr (11, [v0, v1, v2, v3, v4, .int 0, .ref rr, v7])), (rr, .inr (6, [.ref t1, .ref t2, .int 0, .int 0, .long 0, .long 0]))] t.heap ∧ va_K (dC, dI) vwCl [] t ∧ va_D (va_A [(h0, .inr (11, [v0, v1, v2, v3, v4, .int 0, .ref rr, v7])), (rr, .inr (6, [.ref t1, .ref t2, .int 0, .int 0, .long 0, .long 0]))] sz) [(h0, .inr (11, [v0, v1, v2, v3, v4, .int 0, .ref rr, v7])), (rr, .inr (6, [.ref t1, .ref t2, .int 0, .int 0, .long 0, .long 0]))]) (va_A [(h0, .inr (11, [v0, v1, v2, v3, v4, .int 0, .ref rr, v7])), (rr, .inr (6, [.ref t1, .ref t2, .int 0, .int 0, .long 0, .long 0]))] sz)) 0 0 (va_A [(h0, .inr (11, [v0, v1, v2, v3, v4, .int 0, .ref rr, v7])), (rr, .inr (6, [.ref t1, .ref t2, .int 0, .int 0, .long 0, .long 0]))] sz) := by
  refine Met.ofW (cc := cX6_gatherTyped) (maxL := 2) (ret := none) (by decide) rfl ?_
  intro p e s m args below meth c s₁ B hml hv
  obtain ⟨rfl, hsz, hP, hK, hD0⟩ := hv
  have hx := B.exec
  have hb := B.bytes
  have hr := B.returns
  have hts0 := atoms_spec (ws := (pw_ws yX6_gatherTyped cX6_gatherTyped 2 none)) B.pre
  have hts : ∀ w ∈ pw_all, w.before _ s = true := fun w h => hts0 w (List.mem_cons_of_mem _ h)
  have hown : s.vm.findClass RX6 = some m.cls := findClass_of_methodNamed B.named
  have hlocks := B.notSynchronized
  subst hsz
  have hD := hD0.self (sz := s.heap.size)
  generalize hAe : va_A [(h0, .inr (11, [v0, v1, v2, v3, v4, .int 0, .ref rr, v7])), (rr, .inr (6, [.ref t1, .ref t2, .int 0, .int 0, .long 0, .long 0]))] s.heap.size = A at hD ⊢
  have hA : ∀ q : Nat, s.heap.size ≤ q → A q := fun q h => by rw [← hAe]; exact Or.inr h
  have hS : va_S A s.heap s.heap [] := va_S.rf
  have hP : va_P (dC, dI) vwCl [(h0, .inr (11, [v0, v1, v2, v3, v4, .int 0, .ref rr, v7])), (rr, .inr (6, [.ref t1, .ref t2, .int 0, .int 0, .long 0, .long 0]))] s.heap := hP
  have hl := lv_entry ([.ref h0]) (n := 2) (Nat.le_of_ble_eq_true rfl)
  rw [lg_entry_eq]
  generalize (lg_sl ([.ref h0]) ++ List.replicate (2 - (lg_sl ([.ref h0])).length) Slot.unset).toArray = ls at hl ⊢
  have hl : lv_has ls 2 [(0, .ref h0)] := hl
  skip
  refine lv_aload_n hx hb dX6_gatherTyped_0 rfl (lv_at hl 0 rfl) ?_
  refine va_get (D := (dC, dI)) (ci := 11) (v := .ref rr) (C := RX6) (T := TX6) (N := 8) hx hb hts inX6 hown hK hP 0 rfl rfl 6 (by decide) (hts _ q199) (fun _ h9 => h9) rfl dX6_gatherTyped_1 ?_
  have hPc := hP.sub (ws' := [(rr, .inr (6, [.ref t1, .ref t2, .int 0, .int 0, .long 0, .long 0]))]) [1] rfl
  have hDc := hD.sub (ws' := [(rr, .inr (6, [.ref t1, .ref t2, .int 0, .int 0, .long 0, .long 0]))]) [1] (by decide) rfl
  have hKc := hK.sub (tys' := []) [] rfl
  have hFc := va_free (wc := [(rr, .inr (6, [.ref t1, .ref t2, .int 0, .int 0, .long 0, .long 0]))]) hD hS hA [1] rfl
  refine va_callv (va_runV (As := []) (rest := []) ⟨hx, hb, hml, hown, hts⟩ (o_rainClear l dC dI s.heap.size rr t1 t2) (cwV 0 hts (pw_V q230 q231 q232 q47 q233) rfl rfl rfl (by decide +kernel) ⟨(Nat.le_of_ble_eq_true rfl), (Nat.le_of_ble_eq_true rfl)⟩) ⟨fun a U g mk q => by obtain ⟨q0, q1, qP, qK, qD⟩ := q; exact ⟨q0, q1, qP, va_K.moved (u := U) (U := U.calling g mk a) (Vm.Alike.refl U.vm) qK, qD⟩, va_recv hKc hPc (ci := 6) (q0 := 0) rfl rfl, fun U hU hW => ⟨rfl, by rw [hU], by rw [hU]; exact hPc, va_K.moved hW.alike hKc, hDc.weaken (fun _ _ _ _ => trivial)⟩⟩ rfl rfl hl.1 rfl (lv_room (Nat.le_of_ble_eq_true rfl)) dX6_gatherTyped_4 ⟨(Nat.le_of_ble_eq_true rfl), (Nat.le_of_ble_eq_true rfl)⟩) hS (fun q _ h => hFc q h) hFc (fun u t H1 locs ht hvm hw hB hz1 hk1 hS => ?_)
  obtain ⟨hP1, hK1, hD1⟩ := hB
  rw [ht] at hP1
  have hK1 := va_K.moved hvm.symm hK1
  obtain ⟨hP, hD⟩ := va_join (wr := [(h0, .inr (11, [v0, v1, v2, v3, v4, .int 0, .ref rr, v7]))]) (w1 := [(rr, .inr (6, [.ref t1, .ref t2, .int 0, .int 0, .long 0, .long 0]))]) hP hD [1] [0] rfl rfl (by decide) (by decide) hk1 hFc hP1 hD1
  have hK := (hK.sub (tys' := []) [] rfl).app hK1
  generalize H1 = H at hP hS ⊢
  have hP : va_P (dC, dI) vwCl [(h0, .inr (11, [v0, v1, v2, v3, v4, .int 0, .ref rr, v7])), (rr, .inr (6, [.ref t1, .ref t2, .int 0, .int 0, .long 0, .long 0]))] H := hP
  have hD : va_D A [(h0, .inr (11, [v0, v1, v2, v3, v4, .int 0, .ref rr, v7])), (rr, .inr (6, [.ref t1, .ref t2, .int 0, .int 0, .long 0, .long 0]))] := hD
  have hK : va_K (dC, dI) vwCl [] s := hK
  refine W.widen (k := 0) (n := 0) (Nat.le_of_ble_eq_true rfl) (Nat.le_of_ble_eq_true rfl) ?_
  refine lv_iconst (v := 0) hx hb dX6_gatherTyped_7 (by decide) ?_
  refine lv_istore_n (lv' := [(1, .int 0), (0, .ref h0)]) hx hb dX6_gatherTyped_8 rfl hl (by decide) rfl (fun ls hl => ?_)
  refine lv_iload_n hx hb dX6_gatherTyped_9 rfl (lv_at hl 0 rfl) ?_
  refine lv_aload_n hx hb dX6_gatherTyped_10 rfl (lv_at hl 1 rfl) ?_
  refine va_get (D := (dC, dI)) (ci := 11) (v := .int 0) (C := RX6) (T := TX6) (N := 8) hx hb hts inX6 hown hK hP 0 rfl rfl 5 (by decide) (hts _ q198) (fun _ h9 => h9) rfl dX6_gatherTyped_11 ?_
  refine lv_icmp_ge (tgt := 36) hx hb dX6_gatherTyped_14 (by decide) (fun c_177 => ?_) (fun c_177 => absurd (by decide) c_177)
  refine lv_aload_n hx hb dX6_gatherTyped_36 rfl (lv_at hl 1 rfl) ?_
  refine va_get (D := (dC, dI)) (ci := 11) (v := .ref rr) (C := RX6) (T := TX6) (N := 8) hx hb hts inX6 hown hK hP 0 rfl rfl 6 (by decide) (hts _ q199) (fun _ h9 => h9) rfl dX6_gatherTyped_37 ?_
  have hPc := hP.sub (ws' := [(rr, .inr (6, [.ref t1, .ref t2, .int 0, .int 0, .long 0, .long 0]))]) [1] rfl
  have hDc := hD.sub (ws' := [(rr, .inr (6, [.ref t1, .ref t2, .int 0, .int 0, .long 0, .long 0]))]) [1] (by decide) rfl
  have hKc := hK.sub (tys' := []) [] rfl
  have hFc := va_free (wc := [(rr, .inr (6, [.ref t1, .ref t2, .int 0, .int 0, .long 0, .long 0]))]) hD hS hA [1] rfl
  refine va_callv (va_runV (As := []) (rest := []) ⟨hx, hb, hml, hown, hts⟩ (o_rainGather l dC dI H.size rr t1 t2) (cwV 0 hts (pw_V q241 q242 q243 q47 q244) rfl rfl rfl (by decide +kernel) ⟨(Nat.le_of_ble_eq_true rfl), (Nat.le_of_ble_eq_true rfl)⟩) ⟨fun a U g mk q => by obtain ⟨q0, q1, qP, qK, qD⟩ := q; exact ⟨q0, q1, qP, va_K.moved (u := U) (U := U.calling g mk a) (Vm.Alike.refl U.vm) qK, qD⟩, va_recv hKc hPc (ci := 6) (q0 := 0) rfl rfl, fun U hU hW => ⟨rfl, by rw [hU], by rw [hU]; exact hPc, va_K.moved hW.alike hKc, hDc.weaken (fun _ _ _ _ => trivial)⟩⟩ rfl rfl hl.1 rfl (lv_room (Nat.le_of_ble_eq_true rfl)) dX6_gatherTyped_40 ⟨(Nat.le_of_ble_eq_true rfl), (Nat.le_of_ble_eq_true rfl)⟩) hS (fun q _ h => hFc q h) hFc (fun u t H1 locs ht hvm hw hB hz1 hk1 hS => ?_)
  obtain ⟨hP1, hK1, hD1⟩ := hB
  rw [ht] at hP1
  have hK1 := va_K.moved hvm.symm hK1
  obtain ⟨hP, hD⟩ := va_join (wr := [(h0, .inr (11, [v0, v1, v2, v3, v4, .int 0, .ref rr, v7]))]) (w1 := [(rr, .inr (6, [.ref t1, .ref t2, .int 0, .int 0, .long 0, .long 0]))]) hP hD [1] [0] rfl rfl (by decide) (by decide) hk1 hFc hP1 hD1
  have hK := (hK.sub (tys' := []) [] rfl).app hK1
  generalize H1 = H at hP hS ⊢
  have hP : va_P (dC, dI) vwCl [(h0, .inr (11, [v0, v1, v2, v3, v4, .int 0, .ref rr, v7])), (rr, .inr (6, [.ref t1, .ref t2, .int 0, .int 0, .long 0, .long 0]))] H := hP
  have hD : va_D A [(h0, .inr (11, [v0, v1, v2, v3, v4, .int 0, .ref rr, v7])), (rr, .inr (6, [.ref t1, .ref t2, .int 0, .int 0, .long 0, .long 0]))] := hD
  have hK : va_K (dC, dI) vwCl [] s := hK
  refine W.widen (k := 0) (n := 0) (Nat.le_of_ble_eq_true rfl) (Nat.le_of_ble_eq_true rfl) ?_
  have hP9 := hP.sub (ws' := [(h0, .inr (11, [v0, v1, v2, v3, v4, .int 0, .ref rr, v7])), (rr, .inr (6, [.ref t1, .ref t2, .int 0, .int 0, .long 0, .long 0]))]) [0, 1] rfl
  have hD9 := hD.sub (ws' := [(h0, .inr (11, [v0, v1, v2, v3, v4, .int 0, .ref rr, v7])), (rr, .inr (6, [.ref t1, .ref t2, .int 0, .int 0, .long 0, .long 0]))]) [0, 1] (by decide) rfl
  have hK9 := hK.sub (tys' := []) [] rfl
  refine W.widen (k := 0) (n := 0) (Nat.le_of_ble_eq_true rfl) (Nat.le_of_ble_eq_true rfl) ?_
  exact W.vret hx hb hr (fun t ht hW => ⟨⟨(), rfl, trivial, ⟨by rw [ht]; exact hP9, va_K.moved hW.alike hK9, hD9⟩⟩, hS.F ht⟩) hS.2.2 dX6_gatherTyped_43
set_option maxHeartbeats 4000000 in
set_option maxRecDepth 100000 in
theorem o_countCycles (l : Launch) (dC : Nat → ClassId) (dI : Nat → Nat → Nat) (sz : Nat) (h0 : Nat) (rr : Nat) (t1 : Nat) (t2 : Nat) (v0 : Value) (v1 : Value) (v2 : Value) (v3 : Value) (v4 : Value) (v7 : Value) : Met l yX6_countCycles (pw_ws yX6_countCycles cX6_countCycles 1 (some .int)) ({ frames := 3, cells := 0, slots := 0, locals := 63 } : Room) (va_Pc [.ref h0] (fun U => U.heap.size = sz ∧ va_P (dC, dI) vwCl [(h0, .inr (11, [v0, v1, v2, v3, v4, .int 0, .ref rr, v7])), (rr, .inr (6, [.ref t1, .ref t2, .int 0, .int 0, .long 0, .long 0]))] U.heap ∧ va_K (dC, dI) vwCl [] U ∧ va_D (fun _ => True) [(h0, .inr (11, [v0, v1, v2, v3, v4, .int 0, .ref rr, v7])), (rr, .inr (6, [.ref t1, .ref t2, .int 0, .int 0, .long 0, .long 0]))])) (va_Qi (fun (r : Int32) (_ : Unit) => r = 0) (fun (_ : Unit) (t : State) => va_P (dC, dI) vwCl [(h0, .inr (11, [v0, v1, v2, v3, v4, .int 0, .ref rr, v7])), (rr, .inr (6, [.ref t1, .ref t2, .int 0, .int 0, .long 0, .long 0]))] t.heap ∧ va_K (dC, dI) vwCl [] t ∧ va_D (va_A [(h0, .inr (11, [v0, v1, v2, v3, v4, .int 0, .ref rr, v7])), (rr, .inr (6, [.ref t1, .ref t2, .int 0, .int 0, .long 0, .long 0]))] sz) [(h0, .inr (11, [v0, v1, v2, v3, v4, .int 0, .ref rr, v7])), (rr, .inr (6, [.ref t1, .ref t2, .int 0, .int 0, .long 0, .long 0]))]) (va_A [(h0, .inr (11, [v0, v1, v2, v3, v4, .int 0, .ref rr, v7])), (rr, .inr (6, [.ref t1, .ref t2, .int 0, .int 0, .long 0, .long 0]))] sz)) 0 0 (va_A [(h0, .inr (11, [v0, v1, v2, v3, v4, .int 0, .ref rr, v7])), (rr, .inr (6, [.ref t1, .ref t2, .int 0, .int 0, .long 0, .long 0]))] sz) := by
  refine Met.ofW (cc := cX6_countCycles) (maxL := 1) (ret := (some .int)) (by decide) rfl ?_
  intro p e s m args below meth c s₁ B hml hv
  obtain ⟨rfl, hsz, hP, hK, hD0⟩ := hv
  have hx := B.exec
  have hb := B.bytes
  have hr := B.returns
  have hts0 := atoms_spec (ws := (pw_ws yX6_countCycles cX6_countCycles 1 (some .int))) B.pre
  have hts : ∀ w ∈ pw_all, w.before _ s = true := fun w h => hts0 w (List.mem_cons_of_mem _ h)
  have hown : s.vm.findClass RX6 = some m.cls := findClass_of_methodNamed B.named
  have hlocks := B.notSynchronized
  subst hsz
  have hD := hD0.self (sz := s.heap.size)
  generalize hAe : va_A [(h0, .inr (11, [v0, v1, v2, v3, v4, .int 0, .ref rr, v7])), (rr, .inr (6, [.ref t1, .ref t2, .int 0, .int 0, .long 0, .long 0]))] s.heap.size = A at hD ⊢
  have hA : ∀ q : Nat, s.heap.size ≤ q → A q := fun q h => by rw [← hAe]; exact Or.inr h
  have hS : va_S A s.heap s.heap [] := va_S.rf
  have hP : va_P (dC, dI) vwCl [(h0, .inr (11, [v0, v1, v2, v3, v4, .int 0, .ref rr, v7])), (rr, .inr (6, [.ref t1, .ref t2, .int 0, .int 0, .long 0, .long 0]))] s.heap := hP
  have hl := lv_entry ([.ref h0]) (n := 1) (Nat.le_of_ble_eq_true rfl)
  rw [lg_entry_eq]
  generalize (lg_sl ([.ref h0]) ++ List.replicate (1 - (lg_sl ([.ref h0])).length) Slot.unset).toArray = ls at hl ⊢
  have hl : lv_has ls 1 [(0, .ref h0)] := hl
  skip
  refine lv_aload_n hx hb dX6_countCycles_0 rfl (lv_at hl 0 rfl) ?_
  have hPc := hP.sub (ws' := [(h0, .inr (11, [v0, v1, v2, v3, v4, .int 0, .ref rr, v7])), (rr, .inr (6, [.ref t1, .ref t2, .int 0, .int 0, .long 0, .long 0]))]) [0, 1] rfl
  have hDc := hD.sub (ws' := [(h0, .inr (11, [v0, v1, v2, v3, v4, .int 0, .ref rr, v7])), (rr, .inr (6, [.ref t1, .ref t2, .int 0, .int 0, .long 0, .long 0]))]) [0, 1] (by decide) rfl
  have hKc := hK.sub (tys' := []) [] rfl
  have hFc := va_free (wc := [(h0, .inr (11, [v0, v1, v2, v3, v4, .int 0, .ref rr, v7])), (rr, .inr (6, [.ref t1, .ref t2, .int 0, .int 0, .long 0, .long 0]))]) hD hS hA [0, 1] rfl
  refine va_callv (va_runV (As := []) (rest := []) ⟨hx, hb, hml, hown, hts⟩ (o_gatherTyped l dC dI s.heap.size h0 rr t1 t2 v0 v1 v2 v3 v4 v7) (cwV 0 hts (pw_V q226 q228 q0 q43 q229) rfl rfl rfl (by decide +kernel) ⟨(Nat.le_of_ble_eq_true rfl), (Nat.le_of_ble_eq_true rfl)⟩) ⟨fun a U g mk q => by obtain ⟨q0, q1, qP, qK, qD⟩ := q; exact ⟨q0, q1, qP, va_K.moved (u := U) (U := U.calling g mk a) (Vm.Alike.refl U.vm) qK, qD⟩, va_recv hKc hPc (ci := 11) (q0 := 0) rfl rfl, fun U hU hW => ⟨rfl, by rw [hU], by rw [hU]; exact hPc, va_K.moved hW.alike hKc, hDc.weaken (fun _ _ _ _ => trivial)⟩⟩ rfl rfl hl.1 rfl (lv_room (Nat.le_of_ble_eq_true rfl)) dX6_countCycles_1 ⟨(Nat.le_of_ble_eq_true rfl), (Nat.le_of_ble_eq_true rfl)⟩) hS (fun q _ h => hFc q h) hFc (fun u t H1 locs ht hvm hw hB hz1 hk1 hS => ?_)
  obtain ⟨hP1, hK1, hD1⟩ := hB
  rw [ht] at hP1
  have hK1 := va_K.moved hvm.symm hK1
  obtain ⟨hP, hD⟩ := va_join (wr := []) (w1 := [(h0, .inr (11, [v0, v1, v2, v3, v4, .int 0, .ref rr, v7])), (rr, .inr (6, [.ref t1, .ref t2, .int 0, .int 0, .long 0, .long 0]))]) hP hD [0, 1] [] rfl rfl (by decide) (by decide) hk1 hFc hP1 hD1
  have hK := (hK.sub (tys' := []) [] rfl).app hK1
  generalize H1 = H at hP hS ⊢
  have hP : va_P (dC, dI) vwCl [(h0, .inr (11, [v0, v1, v2, v3, v4, .int 0, .ref rr, v7])), (rr, .inr (6, [.ref t1, .ref t2, .int 0, .int 0, .long 0, .long 0]))] H := hP
  have hD : va_D A [(h0, .inr (11, [v0, v1, v2, v3, v4, .int 0, .ref rr, v7])), (rr, .inr (6, [.ref t1, .ref t2, .int 0, .int 0, .long 0, .long 0]))] := hD
  have hK : va_K (dC, dI) vwCl [] s := hK
  refine W.widen (k := 0) (n := 0) (Nat.le_of_ble_eq_true rfl) (Nat.le_of_ble_eq_true rfl) ?_
  refine lv_aload_n hx hb dX6_countCycles_4 rfl (lv_at hl 0 rfl) ?_
  refine va_get (D := (dC, dI)) (ci := 11) (v := .ref rr) (C := RX6) (T := TX6) (N := 8) hx hb hts inX6 hown hK hP 0 rfl rfl 6 (by decide) (hts _ q199) (fun _ h9 => h9) rfl dX6_countCycles_5 ?_
  refine va_get (D := (dC, dI)) (ci := 6) (v := .int 0) (C := RX1) (T := TX1) (N := 6) hx hb hts inX1 hown hK hP 1 rfl rfl 3 (by decide) (hts _ q127) (fun _ h9 => h9) rfl dX6_countCycles_8 ?_
  have hP9 := hP.sub (ws' := [(h0, .inr (11, [v0, v1, v2, v3, v4, .int 0, .ref rr, v7])), (rr, .inr (6, [.ref t1, .ref t2, .int 0, .int 0, .long 0, .long 0]))]) [0, 1] rfl
  have hD9 := hD.sub (ws' := [(h0, .inr (11, [v0, v1, v2, v3, v4, .int 0, .ref rr, v7])), (rr, .inr (6, [.ref t1, .ref t2, .int 0, .int 0, .long 0, .long 0]))]) [0, 1] (by decide) rfl
  have hK9 := hK.sub (tys' := []) [] rfl
  refine W.widen (k := 0) (n := 0) (Nat.le_of_ble_eq_true rfl) (Nat.le_of_ble_eq_true rfl) ?_
  exact W.iret (v := 0) hx hb hr (fun t ht hW => ⟨⟨0, (), rfl, rfl, ⟨by rw [ht]; exact hP9, va_K.moved hW.alike hK9, hD9⟩⟩, hS.F ht⟩) hS.2.2 dX6_countCycles_11
set_option maxHeartbeats 4000000 in
set_option maxRecDepth 100000 in
theorem o_damageOfRow (l : Launch) (dC : Nat → ClassId) (dI : Nat → Nat → Nat) (sz : Nat) (h0 : Nat) (rr : Nat) (t1 : Nat) (t2 : Nat) (v0 : Value) (v1 : Value) (v2 : Value) (v3 : Value) (v4 : Value) (v7 : Value) : Met l yX6_damageOfRow (pw_ws yX6_damageOfRow cX6_damageOfRow 1 (some .long)) ({ frames := 3, cells := 0, slots := 0, locals := 63 } : Room) (va_Pc [.ref h0] (fun U => U.heap.size = sz ∧ va_P (dC, dI) vwCl [(h0, .inr (11, [v0, v1, v2, v3, v4, .int 0, .ref rr, v7])), (rr, .inr (6, [.ref t1, .ref t2, .int 0, .int 0, .long 0, .long 0]))] U.heap ∧ va_K (dC, dI) vwCl [] U ∧ va_D (fun _ => True) [(h0, .inr (11, [v0, v1, v2, v3, v4, .int 0, .ref rr, v7])), (rr, .inr (6, [.ref t1, .ref t2, .int 0, .int 0, .long 0, .long 0]))])) (va_Ql (fun (r : Int64) (_ : Unit) => r = 0) (fun (_ : Unit) (t : State) => va_P (dC, dI) vwCl [(h0, .inr (11, [v0, v1, v2, v3, v4, .int 0, .ref rr, v7])), (rr, .inr (6, [.ref t1, .ref t2, .int 0, .int 0, .long 0, .long 0]))] t.heap ∧ va_K (dC, dI) vwCl [] t ∧ va_D (va_A [(h0, .inr (11, [v0, v1, v2, v3, v4, .int 0, .ref rr, v7])), (rr, .inr (6, [.ref t1, .ref t2, .int 0, .int 0, .long 0, .long 0]))] sz) [(h0, .inr (11, [v0, v1, v2, v3, v4, .int 0, .ref rr, v7])), (rr, .inr (6, [.ref t1, .ref t2, .int 0, .int 0, .long 0, .long 0]))]) (va_A [(h0, .inr (11, [v0, v1, v2, v3, v4, .int 0, .ref rr, v7])), (rr, .inr (6, [.ref t1, .ref t2, .int 0, .int 0, .long 0, .long 0]))] sz)) 0 0 (va_A [(h0, .inr (11, [v0, v1, v2, v3, v4, .int 0, .ref rr, v7])), (rr, .inr (6, [.ref t1, .ref t2, .int 0, .int 0, .long 0, .long 0]))] sz) := by
  refine Met.ofW (cc := cX6_damageOfRow) (maxL := 1) (ret := (some .long)) (by decide) rfl ?_
  intro p e s m args below meth c s₁ B hml hv
  obtain ⟨rfl, hsz, hP, hK, hD0⟩ := hv
  have hx := B.exec
  have hb := B.bytes
  have hr := B.returns
  have hts0 := atoms_spec (ws := (pw_ws yX6_damageOfRow cX6_damageOfRow 1 (some .long))) B.pre
  have hts : ∀ w ∈ pw_all, w.before _ s = true := fun w h => hts0 w (List.mem_cons_of_mem _ h)
  have hown : s.vm.findClass RX6 = some m.cls := findClass_of_methodNamed B.named
  have hlocks := B.notSynchronized
  subst hsz
  have hD := hD0.self (sz := s.heap.size)
  generalize hAe : va_A [(h0, .inr (11, [v0, v1, v2, v3, v4, .int 0, .ref rr, v7])), (rr, .inr (6, [.ref t1, .ref t2, .int 0, .int 0, .long 0, .long 0]))] s.heap.size = A at hD ⊢
  have hA : ∀ q : Nat, s.heap.size ≤ q → A q := fun q h => by rw [← hAe]; exact Or.inr h
  have hS : va_S A s.heap s.heap [] := va_S.rf
  have hP : va_P (dC, dI) vwCl [(h0, .inr (11, [v0, v1, v2, v3, v4, .int 0, .ref rr, v7])), (rr, .inr (6, [.ref t1, .ref t2, .int 0, .int 0, .long 0, .long 0]))] s.heap := hP
  have hl := lv_entry ([.ref h0]) (n := 1) (Nat.le_of_ble_eq_true rfl)
  rw [lg_entry_eq]
  generalize (lg_sl ([.ref h0]) ++ List.replicate (1 - (lg_sl ([.ref h0])).length) Slot.unset).toArray = ls at hl ⊢
  have hl : lv_has ls 1 [(0, .ref h0)] := hl
  skip
  refine lv_aload_n hx hb dX6_damageOfRow_0 rfl (lv_at hl 0 rfl) ?_
  have hPc := hP.sub (ws' := [(h0, .inr (11, [v0, v1, v2, v3, v4, .int 0, .ref rr, v7])), (rr, .inr (6, [.ref t1, .ref t2, .int 0, .int 0, .long 0, .long 0]))]) [0, 1] rfl
  have hDc := hD.sub (ws' := [(h0, .inr (11, [v0, v1, v2, v3, v4, .int 0, .ref rr, v7])), (rr, .inr (6, [.ref t1, .ref t2, .int 0, .int 0, .long 0, .long 0]))]) [0, 1] (by decide) rfl
  have hKc := hK.sub (tys' := []) [] rfl
  have hFc := va_free (wc := [(h0, .inr (11, [v0, v1, v2, v3, v4, .int 0, .ref rr, v7])), (rr, .inr (6, [.ref t1, .ref t2, .int 0, .int 0, .long 0, .long 0]))]) hD hS hA [0, 1] rfl
  refine va_callv (va_runV (As := []) (rest := []) ⟨hx, hb, hml, hown, hts⟩ (o_gatherTyped l dC dI s.heap.size h0 rr t1 t2 v0 v1 v2 v3 v4 v7) (cwV 0 hts (pw_V q226 q228 q0 q43 q229) rfl rfl rfl (by decide +kernel) ⟨(Nat.le_of_ble_eq_true rfl), (Nat.le_of_ble_eq_true rfl)⟩) ⟨fun a U g mk q => by obtain ⟨q0, q1, qP, qK, qD⟩ := q; exact ⟨q0, q1, qP, va_K.moved (u := U) (U := U.calling g mk a) (Vm.Alike.refl U.vm) qK, qD⟩, va_recv hKc hPc (ci := 11) (q0 := 0) rfl rfl, fun U hU hW => ⟨rfl, by rw [hU], by rw [hU]; exact hPc, va_K.moved hW.alike hKc, hDc.weaken (fun _ _ _ _ => trivial)⟩⟩ rfl rfl hl.1 rfl (lv_room (Nat.le_of_ble_eq_true rfl)) dX6_damageOfRow_1 ⟨(Nat.le_of_ble_eq_true rfl), (Nat.le_of_ble_eq_true rfl)⟩) hS (fun q _ h => hFc q h) hFc (fun u t H1 locs ht hvm hw hB hz1 hk1 hS => ?_)
  obtain ⟨hP1, hK1, hD1⟩ := hB
  rw [ht] at hP1
  have hK1 := va_K.moved hvm.symm hK1
  obtain ⟨hP, hD⟩ := va_join (wr := []) (w1 := [(h0, .inr (11, [v0, v1, v2, v3, v4, .int 0, .ref rr, v7])), (rr, .inr (6, [.ref t1, .ref t2, .int 0, .int 0, .long 0, .long 0]))]) hP hD [0, 1] [] rfl rfl (by decide) (by decide) hk1 hFc hP1 hD1
  have hK := (hK.sub (tys' := []) [] rfl).app hK1
  generalize H1 = H at hP hS ⊢
  have hP : va_P (dC, dI) vwCl [(h0, .inr (11, [v0, v1, v2, v3, v4, .int 0, .ref rr, v7])), (rr, .inr (6, [.ref t1, .ref t2, .int 0, .int 0, .long 0, .long 0]))] H := hP
  have hD : va_D A [(h0, .inr (11, [v0, v1, v2, v3, v4, .int 0, .ref rr, v7])), (rr, .inr (6, [.ref t1, .ref t2, .int 0, .int 0, .long 0, .long 0]))] := hD
  have hK : va_K (dC, dI) vwCl [] s := hK
  refine W.widen (k := 0) (n := 0) (Nat.le_of_ble_eq_true rfl) (Nat.le_of_ble_eq_true rfl) ?_
  refine lv_aload_n hx hb dX6_damageOfRow_4 rfl (lv_at hl 0 rfl) ?_
  refine va_get (D := (dC, dI)) (ci := 11) (v := .ref rr) (C := RX6) (T := TX6) (N := 8) hx hb hts inX6 hown hK hP 0 rfl rfl 6 (by decide) (hts _ q199) (fun _ h9 => h9) rfl dX6_damageOfRow_5 ?_
  have hPc := hP.sub (ws' := [(rr, .inr (6, [.ref t1, .ref t2, .int 0, .int 0, .long 0, .long 0]))]) [1] rfl
  have hDc := hD.sub (ws' := [(rr, .inr (6, [.ref t1, .ref t2, .int 0, .int 0, .long 0, .long 0]))]) [1] (by decide) rfl
  have hKc := hK.sub (tys' := []) [] rfl
  have hFc := va_free (wc := [(rr, .inr (6, [.ref t1, .ref t2, .int 0, .int 0, .long 0, .long 0]))]) hD hS hA [1] rfl
  refine va_calll (va_runV (As := []) (rest := []) ⟨hx, hb, hml, hown, hts⟩ (o_rainDamage l dC dI H.size rr t1 t2) (cwV 0 hts (pw_V q263 q264 q265 q47 q266) rfl rfl rfl (by decide +kernel) ⟨(Nat.le_of_ble_eq_true rfl), (Nat.le_of_ble_eq_true rfl)⟩) ⟨fun a U g mk q => by obtain ⟨q0, q1, qP, qK, qD⟩ := q; exact ⟨q0, q1, qP, va_K.moved (u := U) (U := U.calling g mk a) (Vm.Alike.refl U.vm) qK, qD⟩, va_recv hKc hPc (ci := 6) (q0 := 0) rfl rfl, fun U hU hW => ⟨rfl, by rw [hU], by rw [hU]; exact hPc, va_K.moved hW.alike hKc, hDc.weaken (fun _ _ _ _ => trivial)⟩⟩ rfl rfl hl.1 rfl (lv_room (Nat.le_of_ble_eq_true rfl)) dX6_damageOfRow_8 ⟨(Nat.le_of_ble_eq_true rfl), (Nat.le_of_ble_eq_true rfl)⟩) hS (fun q _ h => hFc q h) hFc (fun r_181 u t H1 locs ht hvm hw hB hz1 hk1 hS => ?_)
  obtain ⟨hP1, hK1, hD1⟩ := hB
  rw [ht] at hP1
  have hK1 := va_K.moved hvm.symm hK1
  obtain ⟨hP, hD⟩ := va_join (wr := [(h0, .inr (11, [v0, v1, v2, v3, v4, .int 0, .ref rr, v7]))]) (w1 := [(rr, .inr (6, [.ref t1, .ref t2, .int 0, .int 0, .long 0, .long 0]))]) hP hD [1] [0] rfl rfl (by decide) (by decide) hk1 hFc hP1 hD1
  have hK := (hK.sub (tys' := []) [] rfl).app hK1
  generalize H1 = H at hP hS ⊢
  have hP : va_P (dC, dI) vwCl [(h0, .inr (11, [v0, v1, v2, v3, v4, .int 0, .ref rr, v7])), (rr, .inr (6, [.ref t1, .ref t2, .int 0, .int 0, .long 0, .long 0]))] H := hP
  have hD : va_D A [(h0, .inr (11, [v0, v1, v2, v3, v4, .int 0, .ref rr, v7])), (rr, .inr (6, [.ref t1, .ref t2, .int 0, .int 0, .long 0, .long 0]))] := hD
  have hK : va_K (dC, dI) vwCl [] s := hK
  refine W.widen (k := 0) (n := 0) (Nat.le_of_ble_eq_true rfl) (Nat.le_of_ble_eq_true rfl) ?_
  have hw : r_181 = 0 := hw
  subst hw
  have hP9 := hP.sub (ws' := [(h0, .inr (11, [v0, v1, v2, v3, v4, .int 0, .ref rr, v7])), (rr, .inr (6, [.ref t1, .ref t2, .int 0, .int 0, .long 0, .long 0]))]) [0, 1] rfl
  have hD9 := hD.sub (ws' := [(h0, .inr (11, [v0, v1, v2, v3, v4, .int 0, .ref rr, v7])), (rr, .inr (6, [.ref t1, .ref t2, .int 0, .int 0, .long 0, .long 0]))]) [0, 1] (by decide) rfl
  have hK9 := hK.sub (tys' := []) [] rfl
  refine W.widen (k := 0) (n := 0) (Nat.le_of_ble_eq_true rfl) (Nat.le_of_ble_eq_true rfl) ?_
  exact W.lret (v := 0) hx hb hr (fun t ht hW => ⟨⟨0, (), rfl, rfl, ⟨by rw [ht]; exact hP9, va_K.moved hW.alike hK9, hD9⟩⟩, hS.F ht⟩) hS.2.2 dX6_damageOfRow_11
set_option maxHeartbeats 4000000 in
set_option maxRecDepth 100000 in
theorem o_checksum (l : Launch) (dC : Nat → ClassId) (dI : Nat → Nat → Nat) (sz : Nat) (h0 : Nat) (a : Nat) (b : Nat) (v1 : Value) (v2 : Value) (v4 : Value) (v5 : Value) (v6 : Value) (v7 : Value) (w0 : Value) (w1 : Value) (w2 : Value) (w3 : Value) : Met l yX6_checksum (pw_ws yX6_checksum cX6_checksum 5 (some .long)) ({ frames := 2, cells := 0, slots := 0, locals := 40 } : Room) (va_Pc [.ref h0] (fun U => U.heap.size = sz ∧ va_P (dC, dI) vwCl [(h0, .inr (11, [.ref a, v1, v2, .ref b, v4, v5, v6, v7])), (a, .inr (4, [w0, w1, .int 0])), (b, .inr (4, [w2, w3, .int 0]))] U.heap ∧ va_K (dC, dI) vwCl [] U ∧ va_D (fun _ => True) [(h0, .inr (11, [.ref a, v1, v2, .ref b, v4, v5, v6, v7])), (a, .inr (4, [w0, w1, .int 0])), (b, .inr (4, [w2, w3, .int 0]))])) (va_Ql (fun (r : Int64) (_ : Unit) => r = 7) (fun (_ : Unit) (t : State) => va_P (dC, dI) vwCl [(h0, .inr (11, [.ref a, v1, v2, .ref b, v4, v5, v6, v7])), (a, .inr (4, [w0, w1, .int 0])), (b, .inr (4, [w2, w3, .int 0]))] t.heap ∧ va_K (dC, dI) vwCl [] t ∧ va_D (va_A [(h0, .inr (11, [.ref a, v1, v2, .ref b, v4, v5, v6, v7])), (a, .inr (4, [w0, w1, .int 0])), (b, .inr (4, [w2, w3, .int 0]))] sz) [(h0, .inr (11, [.ref a, v1, v2, .ref b, v4, v5, v6, v7])), (a, .inr (4, [w0, w1, .int 0])), (b, .inr (4, [w2, w3, .int 0]))]) (va_A [(h0, .inr (11, [.ref a, v1, v2, .ref b, v4, v5, v6, v7])), (a, .inr (4, [w0, w1, .int 0])), (b, .inr (4, [w2, w3, .int 0]))] sz)) 0 0 (va_A [(h0, .inr (11, [.ref a, v1, v2, .ref b, v4, v5, v6, v7])), (a, .inr (4, [w0, w1, .int 0])), (b, .inr (4, [w2, w3, .int 0]))] sz) := by
  refine Met.ofW (cc := cX6_checksum) (maxL := 5) (ret := (some .long)) (by decide) rfl ?_
  intro p e s m args below meth c s₁ B hml hv
  obtain ⟨rfl, hsz, hP, hK, hD0⟩ := hv
  have hx := B.exec
  have hb := B.bytes
  have hr := B.returns
  have hts0 := atoms_spec (ws := (pw_ws yX6_checksum cX6_checksum 5 (some .long))) B.pre
  have hts : ∀ w ∈ pw_all, w.before _ s = true := fun w h => hts0 w (List.mem_cons_of_mem _ h)
  have hown : s.vm.findClass RX6 = some m.cls := findClass_of_methodNamed B.named
  have hlocks := B.notSynchronized
  subst hsz
  have hD := hD0.self (sz := s.heap.size)
  generalize hAe : va_A [(h0, .inr (11, [.ref a, v1, v2, .ref b, v4, v5, v6, v7])), (a, .inr (4, [w0, w1, .int 0])), (b, .inr (4, [w2, w3, .int 0]))] s.heap.size = A at hD ⊢
  have hA : ∀ q : Nat, s.heap.size ≤ q → A q := fun q h => by rw [← hAe]; exact Or.inr h
  have hS : va_S A s.heap s.heap [] := va_S.rf
  have hP : va_P (dC, dI) vwCl [(h0, .inr (11, [.ref a, v1, v2, .ref b, v4, v5, v6, v7])), (a, .inr (4, [w0, w1, .int 0])), (b, .inr (4, [w2, w3, .int 0]))] s.heap := hP
  have hl := lv_entry ([.ref h0]) (n := 5) (Nat.le_of_ble_eq_true rfl)
  rw [lg_entry_eq]
  generalize (lg_sl ([.ref h0]) ++ List.replicate (5 - (lg_sl ([.ref h0])).length) Slot.unset).toArray = ls at hl ⊢
  have hl : lv_has ls 5 [(0, .ref h0)] := hl
  skip
  refine lv_ldc2 (v := 7) hx hb hown (hts _ q272) dX6_checksum_0 ?_
  refine lv_lstore_n (lv' := [(1, .long 7), (0, .ref h0)]) hx hb dX6_checksum_3 rfl hl (by decide) rfl (fun ls hl => ?_)
  refine lv_iconst (v := 0) hx hb dX6_checksum_4 (by decide) ?_
  refine lv_istore_n (lv' := [(3, .int 0), (1, .long 7), (0, .ref h0)]) hx hb dX6_checksum_5 rfl hl (by decide) rfl (fun ls hl => ?_)
  refine lv_iload_n hx hb dX6_checksum_6 rfl (lv_at hl 0 rfl) ?_
  refine lv_aload_n hx hb dX6_checksum_7 rfl (lv_at hl 2 rfl) ?_
  refine va_get (D := (dC, dI)) (ci := 11) (v := .ref a) (C := RX6) (T := TX6) (N := 8) hx hb hts inX6 hown hK hP 0 rfl rfl 0 (by decide) (hts _ q193) (fun _ h9 => h9) rfl dX6_checksum_8 ?_
  have hPc := hP.sub (ws' := [(a, .inr (4, [w0, w1, .int 0]))]) [1] rfl
  have hDc := hD.sub (ws' := [(a, .inr (4, [w0, w1, .int 0]))]) [1] (by decide) rfl
  have hKc := hK.sub (tys' := []) [] rfl
  have hFc := va_free (wc := [(a, .inr (4, [w0, w1, .int 0]))]) hD hS hA [1] rfl
  refine va_calli (va_runV (As := []) (rest := [.int 0]) ⟨hx, hb, hml, hown, hts⟩ (m_size l dC dI s.heap.size a w0 w1 0) (cwV 0 hts (pw_V q273 q274 q275 q46 q276) rfl rfl rfl (by decide +kernel) ⟨(Nat.le_of_ble_eq_true rfl), (Nat.le_of_ble_eq_true rfl)⟩) ⟨fun a U g mk q => by obtain ⟨q0, q1, qP, qK, qD⟩ := q; exact ⟨q0, q1, qP, va_K.moved (u := U) (U := U.calling g mk a) (Vm.Alike.refl U.vm) qK, qD⟩, va_recv hKc hPc (ci := 4) (q0 := 0) rfl rfl, fun U hU hW => ⟨rfl, by rw [hU], by rw [hU]; exact hPc, va_K.moved hW.alike hKc, hDc.weaken (fun _ _ _ _ => trivial)⟩⟩ rfl rfl hl.1 rfl (lv_room (Nat.le_of_ble_eq_true rfl)) dX6_checksum_11 ⟨(Nat.le_of_ble_eq_true rfl), (Nat.le_of_ble_eq_true rfl)⟩) hS (fun q _ h => hFc q h) hFc (fun r_182 u t H1 locs ht hvm hw hB hz1 hk1 hS => ?_)
  obtain ⟨hP1, hK1, hD1⟩ := hB
  rw [ht] at hP1
  have hK1 := va_K.moved hvm.symm hK1
  obtain ⟨hP, hD⟩ := va_join (wr := [(h0, .inr (11, [.ref a, v1, v2, .ref b, v4, v5, v6, v7])), (b, .inr (4, [w2, w3, .int 0]))]) (w1 := [(a, .inr (4, [w0, w1, .int 0]))]) hP hD [1] [0, 2] rfl rfl (by decide) (by decide) hk1 hFc hP1 hD1
  have hK := (hK.sub (tys' := []) [] rfl).app hK1
  generalize H1 = H at hP hS ⊢
  have hP : va_P (dC, dI) vwCl [(h0, .inr (11, [.ref a, v1, v2, .ref b, v4, v5, v6, v7])), (b, .inr (4, [w2, w3, .int 0])), (a, .inr (4, [w0, w1, .int 0]))] H := hP
  have hD : va_D A [(h0, .inr (11, [.ref a, v1, v2, .ref b, v4, v5, v6, v7])), (b, .inr (4, [w2, w3, .int 0])), (a, .inr (4, [w0, w1, .int 0]))] := hD
  have hK : va_K (dC, dI) vwCl [] s := hK
  refine W.widen (k := 0) (n := 0) (Nat.le_of_ble_eq_true rfl) (Nat.le_of_ble_eq_true rfl) ?_
  have hw : r_182 = 0 := hw
  subst hw
  refine lv_icmp_ge (tgt := 80) hx hb dX6_checksum_14 (by decide) (fun c_183 => ?_) (fun c_183 => absurd (by decide) c_183)
  refine lv_iconst (v := 0) hx hb dX6_checksum_80 (by decide) ?_
  refine lv_istore_n (lv' := [(3, .int 0), (1, .long 7), (0, .ref h0)]) hx hb dX6_checksum_81 rfl hl (by decide) rfl (fun ls hl => ?_)
  refine lv_iload_n hx hb dX6_checksum_82 rfl (lv_at hl 0 rfl) ?_
  refine lv_aload_n hx hb dX6_checksum_83 rfl (lv_at hl 2 rfl) ?_
  refine va_get (D := (dC, dI)) (ci := 11) (v := .ref b) (C := RX6) (T := TX6) (N := 8) hx hb hts inX6 hown hK hP 0 rfl rfl 3 (by decide) (hts _ q196) (fun _ h9 => h9) rfl dX6_checksum_84 ?_
  have hPc := hP.sub (ws' := [(b, .inr (4, [w2, w3, .int 0]))]) [1] rfl
  have hDc := hD.sub (ws' := [(b, .inr (4, [w2, w3, .int 0]))]) [1] (by decide) rfl
  have hKc := hK.sub (tys' := []) [] rfl
  have hFc := va_free (wc := [(b, .inr (4, [w2, w3, .int 0]))]) hD hS hA [1] rfl
  refine va_calli (va_runV (As := []) (rest := [.int 0]) ⟨hx, hb, hml, hown, hts⟩ (m_size l dC dI H.size b w2 w3 0) (cwV 0 hts (pw_V q273 q274 q275 q46 q276) rfl rfl rfl (by decide +kernel) ⟨(Nat.le_of_ble_eq_true rfl), (Nat.le_of_ble_eq_true rfl)⟩) ⟨fun a U g mk q => by obtain ⟨q0, q1, qP, qK, qD⟩ := q; exact ⟨q0, q1, qP, va_K.moved (u := U) (U := U.calling g mk a) (Vm.Alike.refl U.vm) qK, qD⟩, va_recv hKc hPc (ci := 4) (q0 := 0) rfl rfl, fun U hU hW => ⟨rfl, by rw [hU], by rw [hU]; exact hPc, va_K.moved hW.alike hKc, hDc.weaken (fun _ _ _ _ => trivial)⟩⟩ rfl rfl hl.1 rfl (lv_room (Nat.le_of_ble_eq_true rfl)) dX6_checksum_87 ⟨(Nat.le_of_ble_eq_true rfl), (Nat.le_of_ble_eq_true rfl)⟩) hS (fun q _ h => hFc q h) hFc (fun r_184 u t H1 locs ht hvm hw hB hz1 hk1 hS => ?_)
  obtain ⟨hP1, hK1, hD1⟩ := hB
  rw [ht] at hP1
  have hK1 := va_K.moved hvm.symm hK1
  obtain ⟨hP, hD⟩ := va_join (wr := [(h0, .inr (11, [.ref a, v1, v2, .ref b, v4, v5, v6, v7])), (a, .inr (4, [w0, w1, .int 0]))]) (w1 := [(b, .inr (4, [w2, w3, .int 0]))]) hP hD [1] [0, 2] rfl rfl (by decide) (by decide) hk1 hFc hP1 hD1
  have hK := (hK.sub (tys' := []) [] rfl).app hK1
  generalize H1 = H at hP hS ⊢
  have hP : va_P (dC, dI) vwCl [(h0, .inr (11, [.ref a, v1, v2, .ref b, v4, v5, v6, v7])), (a, .inr (4, [w0, w1, .int 0])), (b, .inr (4, [w2, w3, .int 0]))] H := hP
  have hD : va_D A [(h0, .inr (11, [.ref a, v1, v2, .ref b, v4, v5, v6, v7])), (a, .inr (4, [w0, w1, .int 0])), (b, .inr (4, [w2, w3, .int 0]))] := hD
  have hK : va_K (dC, dI) vwCl [] s := hK
  refine W.widen (k := 0) (n := 0) (Nat.le_of_ble_eq_true rfl) (Nat.le_of_ble_eq_true rfl) ?_
  have hw : r_184 = 0 := hw
  subst hw
  refine lv_icmp_ge (tgt := 151) hx hb dX6_checksum_90 (by decide) (fun c_185 => ?_) (fun c_185 => absurd (by decide) c_185)
  refine lv_lload_n hx hb dX6_checksum_151 rfl (lv_at hl 1 rfl) ?_
  have hP9 := hP.sub (ws' := [(h0, .inr (11, [.ref a, v1, v2, .ref b, v4, v5, v6, v7])), (a, .inr (4, [w0, w1, .int 0])), (b, .inr (4, [w2, w3, .int 0]))]) [0, 1, 2] rfl
  have hD9 := hD.sub (ws' := [(h0, .inr (11, [.ref a, v1, v2, .ref b, v4, v5, v6, v7])), (a, .inr (4, [w0, w1, .int 0])), (b, .inr (4, [w2, w3, .int 0]))]) [0, 1, 2] (by decide) rfl
  have hK9 := hK.sub (tys' := []) [] rfl
  refine W.widen (k := 0) (n := 0) (Nat.le_of_ble_eq_true rfl) (Nat.le_of_ble_eq_true rfl) ?_
  exact W.lret (v := 7) hx hb hr (fun t ht hW => ⟨⟨7, (), rfl, rfl, ⟨by rw [ht]; exact hP9, va_K.moved hW.alike hK9, hD9⟩⟩, hS.F ht⟩) hS.2.2 dX6_checksum_152
set_option maxHeartbeats 4000000 in
set_option maxRecDepth 100000 in
theorem o_isSound (l : Launch) (dC : Nat → ClassId) (dI : Nat → Nat → Nat) (sz : Nat) (h0 : Nat) (a : Nat) (b : Nat) (v1 : Value) (v2 : Value) (v4 : Value) (v5 : Value) (v6 : Value) (v7 : Value) (w0 : Value) (w1 : Value) (w2 : Value) (w3 : Value) : Met l yX6_isSound (pw_ws yX6_isSound cX6_isSound 3 (some .boolean)) ({ frames := 2, cells := 0, slots := 0, locals := 40 } : Room) (va_Pc [.ref h0] (fun U => U.heap.size = sz ∧ va_P (dC, dI) vwCl [(h0, .inr (11, [.ref a, v1, v2, .ref b, v4, v5, v6, v7])), (a, .inr (4, [w0, w1, .int 0])), (b, .inr (4, [w2, w3, .int 0]))] U.heap ∧ va_K (dC, dI) vwCl [] U ∧ va_D (fun _ => True) [(h0, .inr (11, [.ref a, v1, v2, .ref b, v4, v5, v6, v7])), (a, .inr (4, [w0, w1, .int 0])), (b, .inr (4, [w2, w3, .int 0]))])) (va_Qi (fun (r : Int32) (_ : Unit) => r = 1) (fun (_ : Unit) (t : State) => va_P (dC, dI) vwCl [(h0, .inr (11, [.ref a, v1, v2, .ref b, v4, v5, v6, v7])), (a, .inr (4, [w0, w1, .int 0])), (b, .inr (4, [w2, w3, .int 0]))] t.heap ∧ va_K (dC, dI) vwCl [] t ∧ va_D (va_A [(h0, .inr (11, [.ref a, v1, v2, .ref b, v4, v5, v6, v7])), (a, .inr (4, [w0, w1, .int 0])), (b, .inr (4, [w2, w3, .int 0]))] sz) [(h0, .inr (11, [.ref a, v1, v2, .ref b, v4, v5, v6, v7])), (a, .inr (4, [w0, w1, .int 0])), (b, .inr (4, [w2, w3, .int 0]))]) (va_A [(h0, .inr (11, [.ref a, v1, v2, .ref b, v4, v5, v6, v7])), (a, .inr (4, [w0, w1, .int 0])), (b, .inr (4, [w2, w3, .int 0]))] sz)) 0 0 (va_A [(h0, .inr (11, [.ref a, v1, v2, .ref b, v4, v5, v6, v7])), (a, .inr (4, [w0, w1, .int 0])), (b, .inr (4, [w2, w3, .int 0]))] sz) := by
  refine Met.ofW (cc := cX6_isSound) (maxL := 3) (ret := (some .boolean)) (by decide) rfl ?_
  intro p e s m args below meth c s₁ B hml hv
  obtain ⟨rfl, hsz, hP, hK, hD0⟩ := hv
  have hx := B.exec
  have hb := B.bytes
  have hr := B.returns
  have hts0 := atoms_spec (ws := (pw_ws yX6_isSound cX6_isSound 3 (some .boolean))) B.pre
  have hts : ∀ w ∈ pw_all, w.before _ s = true := fun w h => hts0 w (List.mem_cons_of_mem _ h)
  have hown : s.vm.findClass RX6 = some m.cls := findClass_of_methodNamed B.named
  have hlocks := B.notSynchronized
  subst hsz
  have hD := hD0.self (sz := s.heap.size)
  generalize hAe : va_A [(h0, .inr (11, [.ref a, v1, v2, .ref b, v4, v5, v6, v7])), (a, .inr (4, [w0, w1, .int 0])), (b, .inr (4, [w2, w3, .int 0]))] s.heap.size = A at hD ⊢
  have hA : ∀ q : Nat, s.heap.size ≤ q → A q := fun q h => by rw [← hAe]; exact Or.inr h
  have hS : va_S A s.heap s.heap [] := va_S.rf
  have hP : va_P (dC, dI) vwCl [(h0, .inr (11, [.ref a, v1, v2, .ref b, v4, v5, v6, v7])), (a, .inr (4, [w0, w1, .int 0])), (b, .inr (4, [w2, w3, .int 0]))] s.heap := hP
  have hl := lv_entry ([.ref h0]) (n := 3) (Nat.le_of_ble_eq_true rfl)
  rw [lg_entry_eq]
  generalize (lg_sl ([.ref h0]) ++ List.replicate (3 - (lg_sl ([.ref h0])).length) Slot.unset).toArray = ls at hl ⊢
  have hl : lv_has ls 3 [(0, .ref h0)] := hl
  skip
  refine lv_iconst (v := 1) hx hb dX6_isSound_0 (by decide) ?_
  refine lv_istore_n (lv' := [(1, .int 1), (0, .ref h0)]) hx hb dX6_isSound_1 rfl hl (by decide) rfl (fun ls hl => ?_)
  refine lv_iconst (v := 0) hx hb dX6_isSound_2 (by decide) ?_
  refine lv_istore_n (lv' := [(2, .int 0), (1, .int 1), (0, .ref h0)]) hx hb dX6_isSound_3 rfl hl (by decide) rfl (fun ls hl => ?_)
  refine lv_iload_n hx hb dX6_isSound_4 rfl (lv_at hl 0 rfl) ?_
  refine lv_aload_n hx hb dX6_isSound_5 rfl (lv_at hl 2 rfl) ?_
  refine va_get (D := (dC, dI)) (ci := 11) (v := .ref a) (C := RX6) (T := TX6) (N := 8) hx hb hts inX6 hown hK hP 0 rfl rfl 0 (by decide) (hts _ q193) (fun _ h9 => h9) rfl dX6_isSound_6 ?_
  have hPc := hP.sub (ws' := [(a, .inr (4, [w0, w1, .int 0]))]) [1] rfl
  have hDc := hD.sub (ws' := [(a, .inr (4, [w0, w1, .int 0]))]) [1] (by decide) rfl
  have hKc := hK.sub (tys' := []) [] rfl
  have hFc := va_free (wc := [(a, .inr (4, [w0, w1, .int 0]))]) hD hS hA [1] rfl
  refine va_calli (va_runV (As := []) (rest := [.int 0]) ⟨hx, hb, hml, hown, hts⟩ (m_size l dC dI s.heap.size a w0 w1 0) (cwV 0 hts (pw_V q273 q274 q275 q46 q276) rfl rfl rfl (by decide +kernel) ⟨(Nat.le_of_ble_eq_true rfl), (Nat.le_of_ble_eq_true rfl)⟩) ⟨fun a U g mk q => by obtain ⟨q0, q1, qP, qK, qD⟩ := q; exact ⟨q0, q1, qP, va_K.moved (u := U) (U := U.calling g mk a) (Vm.Alike.refl U.vm) qK, qD⟩, va_recv hKc hPc (ci := 4) (q0 := 0) rfl rfl, fun U hU hW => ⟨rfl, by rw [hU], by rw [hU]; exact hPc, va_K.moved hW.alike hKc, hDc.weaken (fun _ _ _ _ => trivial)⟩⟩ rfl rfl hl.1 rfl (lv_room (Nat.le_of_ble_eq_true rfl)) dX6_isSound_9 ⟨(Nat.le_of_ble_eq_true rfl), (Nat.le_of_ble_eq_true rfl)⟩) hS (fun q _ h => hFc q h) hFc (fun r_186 u t H1 locs ht hvm hw hB hz1 hk1 hS => ?_)
  obtain ⟨hP1, hK1, hD1⟩ := hB
  rw [ht] at hP1
  have hK1 := va_K.moved hvm.symm hK1
  obtain ⟨hP, hD⟩ := va_join (wr := [(h0, .inr (11, [.ref a, v1, v2, .ref b, v4, v5, v6, v7])), (b, .inr (4, [w2, w3, .int 0]))]) (w1 := [(a, .inr (4, [w0, w1, .int 0]))]) hP hD [1] [0, 2] rfl rfl (by decide) (by decide) hk1 hFc hP1 hD1
  have hK := (hK.sub (tys' := []) [] rfl).app hK1
  generalize H1 = H at hP hS ⊢
  have hP : va_P (dC, dI) vwCl [(h0, .inr (11, [.ref a, v1, v2, .ref b, v4, v5, v6, v7])), (b, .inr (4, [w2, w3, .int 0])), (a, .inr (4, [w0, w1, .int 0]))] H := hP
  have hD : va_D A [(h0, .inr (11, [.ref a, v1, v2, .ref b, v4, v5, v6, v7])), (b, .inr (4, [w2, w3, .int 0])), (a, .inr (4, [w0, w1, .int 0]))] := hD
  have hK : va_K (dC, dI) vwCl [] s := hK
  refine W.widen (k := 0) (n := 0) (Nat.le_of_ble_eq_true rfl) (Nat.le_of_ble_eq_true rfl) ?_
  have hw : r_186 = 0 := hw
  subst hw
  refine lv_icmp_ge (tgt := 48) hx hb dX6_isSound_12 (by decide) (fun c_187 => ?_) (fun c_187 => absurd (by decide) c_187)
  refine lv_iconst (v := 0) hx hb dX6_isSound_48 (by decide) ?_
  refine lv_istore_n (lv' := [(2, .int 0), (1, .int 1), (0, .ref h0)]) hx hb dX6_isSound_49 rfl hl (by decide) rfl (fun ls hl => ?_)
  refine lv_iload_n hx hb dX6_isSound_50 rfl (lv_at hl 0 rfl) ?_
  refine lv_aload_n hx hb dX6_isSound_51 rfl (lv_at hl 2 rfl) ?_
  refine va_get (D := (dC, dI)) (ci := 11) (v := .ref b) (C := RX6) (T := TX6) (N := 8) hx hb hts inX6 hown hK hP 0 rfl rfl 3 (by decide) (hts _ q196) (fun _ h9 => h9) rfl dX6_isSound_52 ?_
  have hPc := hP.sub (ws' := [(b, .inr (4, [w2, w3, .int 0]))]) [1] rfl
  have hDc := hD.sub (ws' := [(b, .inr (4, [w2, w3, .int 0]))]) [1] (by decide) rfl
  have hKc := hK.sub (tys' := []) [] rfl
  have hFc := va_free (wc := [(b, .inr (4, [w2, w3, .int 0]))]) hD hS hA [1] rfl
  refine va_calli (va_runV (As := []) (rest := [.int 0]) ⟨hx, hb, hml, hown, hts⟩ (m_size l dC dI H.size b w2 w3 0) (cwV 0 hts (pw_V q273 q274 q275 q46 q276) rfl rfl rfl (by decide +kernel) ⟨(Nat.le_of_ble_eq_true rfl), (Nat.le_of_ble_eq_true rfl)⟩) ⟨fun a U g mk q => by obtain ⟨q0, q1, qP, qK, qD⟩ := q; exact ⟨q0, q1, qP, va_K.moved (u := U) (U := U.calling g mk a) (Vm.Alike.refl U.vm) qK, qD⟩, va_recv hKc hPc (ci := 4) (q0 := 0) rfl rfl, fun U hU hW => ⟨rfl, by rw [hU], by rw [hU]; exact hPc, va_K.moved hW.alike hKc, hDc.weaken (fun _ _ _ _ => trivial)⟩⟩ rfl rfl hl.1 rfl (lv_room (Nat.le_of_ble_eq_true rfl)) dX6_isSound_55 ⟨(Nat.le_of_ble_eq_true rfl), (Nat.le_of_ble_eq_true rfl)⟩) hS (fun q _ h => hFc q h) hFc (fun r_188 u t H1 locs ht hvm hw hB hz1 hk1 hS => ?_)
  obtain ⟨hP1, hK1, hD1⟩ := hB
  rw [ht] at hP1
  have hK1 := va_K.moved hvm.symm hK1
  obtain ⟨hP, hD⟩ := va_join (wr := [(h0, .inr (11, [.ref a, v1, v2, .ref b, v4, v5, v6, v7])), (a, .inr (4, [w0, w1, .int 0]))]) (w1 := [(b, .inr (4, [w2, w3, .int 0]))]) hP hD [1] [0, 2] rfl rfl (by decide) (by decide) hk1 hFc hP1 hD1
  have hK := (hK.sub (tys' := []) [] rfl).app hK1
  generalize H1 = H at hP hS ⊢
  have hP : va_P (dC, dI) vwCl [(h0, .inr (11, [.ref a, v1, v2, .ref b, v4, v5, v6, v7])), (a, .inr (4, [w0, w1, .int 0])), (b, .inr (4, [w2, w3, .int 0]))] H := hP
  have hD : va_D A [(h0, .inr (11, [.ref a, v1, v2, .ref b, v4, v5, v6, v7])), (a, .inr (4, [w0, w1, .int 0])), (b, .inr (4, [w2, w3, .int 0]))] := hD
  have hK : va_K (dC, dI) vwCl [] s := hK
  refine W.widen (k := 0) (n := 0) (Nat.le_of_ble_eq_true rfl) (Nat.le_of_ble_eq_true rfl) ?_
  have hw : r_188 = 0 := hw
  subst hw
  refine lv_icmp_ge (tgt := 94) hx hb dX6_isSound_58 (by decide) (fun c_189 => ?_) (fun c_189 => absurd (by decide) c_189)
  refine lv_iload_n hx hb dX6_isSound_94 rfl (lv_at hl 1 rfl) ?_
  have hP9 := hP.sub (ws' := [(h0, .inr (11, [.ref a, v1, v2, .ref b, v4, v5, v6, v7])), (a, .inr (4, [w0, w1, .int 0])), (b, .inr (4, [w2, w3, .int 0]))]) [0, 1, 2] rfl
  have hD9 := hD.sub (ws' := [(h0, .inr (11, [.ref a, v1, v2, .ref b, v4, v5, v6, v7])), (a, .inr (4, [w0, w1, .int 0])), (b, .inr (4, [w2, w3, .int 0]))]) [0, 1, 2] (by decide) rfl
  have hK9 := hK.sub (tys' := []) [] rfl
  refine W.widen (k := 0) (n := 0) (Nat.le_of_ble_eq_true rfl) (Nat.le_of_ble_eq_true rfl) ?_
  exact W.zret (v := 1) hx hb hr (by decide) (fun t ht hW => ⟨⟨1, (), rfl, rfl, ⟨by rw [ht]; exact hP9, va_K.moved hW.alike hK9, hD9⟩⟩, hS.F ht⟩) hS.2.2 dX6_isSound_95
