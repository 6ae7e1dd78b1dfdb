set_option maxHeartbeats 4000000 in
set_option maxRecDepth 100000 in
theorem law_case_0 {p : Program} {e : Env} {s : State} {m : MethodId} {below : List Frame} {meth : Method} {c : Code} (l : Launch) (hl9 : l.stackTraces = false) (dC : Nat → ClassId) (dI : Nat → Nat → Nat) (ed : Nat) {b : Nat} {xs : Nat → Int32} (C0 : lw_At p s m meth c b 5 xs) (hZ : pz ed (fun q : Nat => s.heap.size ≤ q) s s.heap) (x a1 a2 a3 a4 tt rr cq t1 t2 mo b1 b2 b3 b4 b5 ou od : Nat) (cT cO cD : ClassId) {H : Heap} {locs : List Loc} (hK : va_K (dC, dI) vwCl [(cT, .int), (cO, .long), (cD, .double)] s) (hP : va_P (dC, dI) vwCl [(x, .inr (11, [.ref a1, .ref a2, .ref a3, .ref a4, .ref tt, .int 0, .ref rr, .ref cq])), (a1, .inr (4, [.int 0, .ref ed, .int 0])), (a2, .inr (4, [.int 0, .ref ed, .int 0])), (a3, .inr (4, [.int 0, .ref ed, .int 0])), (a4, .inr (4, [.int 0, .ref ed, .int 0])), (tt, .inl (cT, 24, .inl (fun _ => 0))), (rr, .inr (6, [.ref t1, .ref t2, .int 0, .int 0, .long 0, .long 0])), (mo, .inr (15, [.ref b1, .ref b2, .ref b3, .ref b4, .ref b5, .int 0])), (b1, .inr (4, [.int 0, .ref ed, .int 0])), (b2, .inr (4, [.int 0, .ref ed, .int 0])), (b3, .inr (4, [.int 0, .ref ed, .int 0])), (b4, .inr (4, [.int 0, .ref ed, .int 0])), (b5, .inr (4, [.int 0, .ref ed, .int 0])), (ou, .inl (cO, 1, .inr (.inl (fun _ => 0)))), (od, .inl (cD, 1, .inr (.inr (.inr (.inl (fun _ => 0))))))] H) (hD : va_D (fun q : Nat => s.heap.size ≤ q) [(x, .inr (11, [.ref a1, .ref a2, .ref a3, .ref a4, .ref tt, .int 0, .ref rr, .ref cq])), (a1, .inr (4, [.int 0, .ref ed, .int 0])), (a2, .inr (4, [.int 0, .ref ed, .int 0])), (a3, .inr (4, [.int 0, .ref ed, .int 0])), (a4, .inr (4, [.int 0, .ref ed, .int 0])), (tt, .inl (cT, 24, .inl (fun _ => 0))), (rr, .inr (6, [.ref t1, .ref t2, .int 0, .int 0, .long 0, .long 0])), (mo, .inr (15, [.ref b1, .ref b2, .ref b3, .ref b4, .ref b5, .int 0])), (b1, .inr (4, [.int 0, .ref ed, .int 0])), (b2, .inr (4, [.int 0, .ref ed, .int 0])), (b3, .inr (4, [.int 0, .ref ed, .int 0])), (b4, .inr (4, [.int 0, .ref ed, .int 0])), (b5, .inr (4, [.int 0, .ref ed, .int 0])), (ou, .inl (cO, 1, .inr (.inl (fun _ => 0)))), (od, .inl (cD, 1, .inr (.inr (.inr (.inl (fun _ => 0))))))]) (hS : va_S (fun q : Nat => s.heap.size ≤ q) s.heap H locs) {ls : Array Slot} (hl : lv_has ls 9 [(5, .int 0), (4, .ref od), (3, .ref ou), (2, .ref mo), (1, .ref x), (0, .ref b)]) : W p l e room_1 s m #[Value.ref b] below meth c H locs 27 298 (lw_Z below #[Value.ref b] s) (F0 m 244 ls []) := by
  obtain ⟨hx, hb, hr, hml, hown, hts0, hX, hbl, hlocks, hgv⟩ := id C0
  have hts : ∀ w ∈ pw_all, w.before #[Value.ref b] s = true := fun w h => hts0 w (pw_tbl h)
  have hA : ∀ q : Nat, s.heap.size ≤ q → (fun q : Nat => s.heap.size ≤ q) q := fun _ h => h
  have hbA : ¬ (fun q : Nat => s.heap.size ≤ q) b := Nat.not_le.mpr hbl
  refine lv_aload_n hx hb dL_law_244 rfl (lv_at hl 4 rfl) ?_
  refine lv_aload_n hx hb dL_law_245 rfl (lv_at hl 2 rfl) ?_
  have hPc := hP.sub (ws' := [(x, .inr (11, [.ref a1, .ref a2, .ref a3, .ref a4, .ref tt, .int 0, .ref rr, .ref cq])), (a1, .inr (4, [.int 0, .ref ed, .int 0])), (ou, .inl (cO, 1, .inr (.inl (fun _ => 0))))]) [0, 1, 13] rfl
  have hDc := hD.sub (ws' := [(x, .inr (11, [.ref a1, .ref a2, .ref a3, .ref a4, .ref tt, .int 0, .ref rr, .ref cq])), (a1, .inr (4, [.int 0, .ref ed, .int 0])), (ou, .inl (cO, 1, .inr (.inl (fun _ => 0))))]) [0, 1, 13] (by decide) rfl
  have hKc := hK.sub (tys' := [(cO, .long)]) [1] rfl
  have hFc := va_free (wc := [(x, .inr (11, [.ref a1, .ref a2, .ref a3, .ref a4, .ref tt, .int 0, .ref rr, .ref cq])), (a1, .inr (4, [.int 0, .ref ed, .int 0])), (ou, .inl (cO, 1, .inr (.inl (fun _ => 0))))]) hD hS hA [0, 1, 13] rfl
  refine va_calli (vx_runSW (As := [.ref x, .ref ou]) (rest := []) ⟨hx, hb, hml, hown, hts⟩ (w_addStructure l dC dI H.size ed x a1 ou (.ref a2) (.ref a3) (.ref a4) (.ref tt) (.int 0) (.ref rr) (.ref cq) 0 cO (fun _ => 0)) (vx_cwSW 2 hts (pw_S q315 q316 q42 q317) rfl rfl rfl (by decide +kernel) ⟨(Nat.le_of_ble_eq_true rfl), (Nat.le_of_ble_eq_true rfl)⟩) ⟨fun a U g mk q => by obtain ⟨q0, q1, qP, qK, qD, qZ⟩ := q; exact ⟨q0, q1, qP, va_K.moved (u := U) (U := U.calling g mk a) (Vm.Alike.refl U.vm) qK, qD, qZ.same rfl⟩, fun U hU hW => ⟨rfl, by rw [hU], by rw [hU]; exact hPc, va_K.moved hW.alike hKc, hDc.weaken (fun _ _ _ _ => trivial), hZ.call hS hFc hU hW⟩⟩ rfl rfl hl.1 rfl (lv_room (Nat.le_of_ble_eq_true rfl)) dL_law_246 ⟨(Nat.le_of_ble_eq_true rfl), (Nat.le_of_ble_eq_true rfl)⟩) hS (fun q _ h => hFc q h) hFc (fun r_481 u t H1 locs ht hvm hw hB hz1 hk1 hS => ?_)
  obtain ⟨qb_482, hP1, hK1, hD1⟩ := hB
  rw [ht] at hP1
  have hK1 := va_K.moved hvm.symm hK1
  obtain ⟨hP, hD⟩ := va_join (wr := [(a2, .inr (4, [.int 0, .ref ed, .int 0])), (a3, .inr (4, [.int 0, .ref ed, .int 0])), (a4, .inr (4, [.int 0, .ref ed, .int 0])), (tt, .inl (cT, 24, .inl (fun _ => 0))), (rr, .inr (6, [.ref t1, .ref t2, .int 0, .int 0, .long 0, .long 0])), (mo, .inr (15, [.ref b1, .ref b2, .ref b3, .ref b4, .ref b5, .int 0])), (b1, .inr (4, [.int 0, .ref ed, .int 0])), (b2, .inr (4, [.int 0, .ref ed, .int 0])), (b3, .inr (4, [.int 0, .ref ed, .int 0])), (b4, .inr (4, [.int 0, .ref ed, .int 0])), (b5, .inr (4, [.int 0, .ref ed, .int 0])), (od, .inl (cD, 1, .inr (.inr (.inr (.inl (fun _ => 0))))))]) (w1 := [(x, .inr (11, [.ref a1, .ref a2, .ref a3, .ref a4, .ref tt, .int 0, .ref rr, .ref cq])), (a1, .inr (4, [.int (0 + 1), .ref qb_482, .int 1])), (ou, .inl (cO, 1, .inr (.inl (vp_updL (fun _ => 0) 0 0))))]) hP hD [0, 1, 13] [2, 3, 4, 5, 6, 7, 8, 9, 10, 11, 12, 14] rfl rfl (by decide) (by decide) hk1 hFc hP1 hD1
  have hK := (hK.sub (tys' := [(cT, .int), (cD, .double)]) [0, 2] rfl).app hK1
  generalize H1 = H at hP hS ⊢
  have hP : va_P (dC, dI) vwCl [(a2, .inr (4, [.int 0, .ref ed, .int 0])), (a3, .inr (4, [.int 0, .ref ed, .int 0])), (a4, .inr (4, [.int 0, .ref ed, .int 0])), (tt, .inl (cT, 24, .inl (fun _ => 0))), (rr, .inr (6, [.ref t1, .ref t2, .int 0, .int 0, .long 0, .long 0])), (mo, .inr (15, [.ref b1, .ref b2, .ref b3, .ref b4, .ref b5, .int 0])), (b1, .inr (4, [.int 0, .ref ed, .int 0])), (b2, .inr (4, [.int 0, .ref ed, .int 0])), (b3, .inr (4, [.int 0, .ref ed, .int 0])), (b4, .inr (4, [.int 0, .ref ed, .int 0])), (b5, .inr (4, [.int 0, .ref ed, .int 0])), (od, .inl (cD, 1, .inr (.inr (.inr (.inl (fun _ => 0)))))), (x, .inr (11, [.ref a1, .ref a2, .ref a3, .ref a4, .ref tt, .int 0, .ref rr, .ref cq])), (a1, .inr (4, [.int (0 + 1), .ref qb_482, .int 1])), (ou, .inl (cO, 1, .inr (.inl (vp_updL (fun _ => 0) 0 0))))] H := hP
  have hD : va_D (fun q : Nat => s.heap.size ≤ q) [(a2, .inr (4, [.int 0, .ref ed, .int 0])), (a3, .inr (4, [.int 0, .ref ed, .int 0])), (a4, .inr (4, [.int 0, .ref ed, .int 0])), (tt, .inl (cT, 24, .inl (fun _ => 0))), (rr, .inr (6, [.ref t1, .ref t2, .int 0, .int 0, .long 0, .long 0])), (mo, .inr (15, [.ref b1, .ref b2, .ref b3, .ref b4, .ref b5, .int 0])), (b1, .inr (4, [.int 0, .ref ed, .int 0])), (b2, .inr (4, [.int 0, .ref ed, .int 0])), (b3, .inr (4, [.int 0, .ref ed, .int 0])), (b4, .inr (4, [.int 0, .ref ed, .int 0])), (b5, .inr (4, [.int 0, .ref ed, .int 0])), (od, .inl (cD, 1, .inr (.inr (.inr (.inl (fun _ => 0)))))), (x, .inr (11, [.ref a1, .ref a2, .ref a3, .ref a4, .ref tt, .int 0, .ref rr, .ref cq])), (a1, .inr (4, [.int (0 + 1), .ref qb_482, .int 1])), (ou, .inl (cO, 1, .inr (.inl (vp_updL (fun _ => 0) 0 0))))] := hD
  have hK : va_K (dC, dI) vwCl [(cT, .int), (cD, .double), (cO, .long)] s := hK
  refine W.widen (k := 40) (n := 370) (Nat.le_of_ble_eq_true rfl) (Nat.le_of_ble_eq_true rfl) ?_
  have hw : r_481 = 0 := hw
  subst hw
  refine lv_istore (lv' := [(6, .int 0), (5, .int 0), (4, .ref od), (3, .ref ou), (2, .ref mo), (1, .ref x), (0, .ref b)]) hx hb dL_law_249 hl (by decide) rfl (fun ls hl => ?_)
  refine lv_aload_n hx hb dL_law_251 rfl (lv_at hl 4 rfl) ?_
  have hPc := hP.sub (ws' := [(mo, .inr (15, [.ref b1, .ref b2, .ref b3, .ref b4, .ref b5, .int 0])), (b1, .inr (4, [.int 0, .ref ed, .int 0]))]) [5, 6] rfl
  have hDc := hD.sub (ws' := [(mo, .inr (15, [.ref b1, .ref b2, .ref b3, .ref b4, .ref b5, .int 0])), (b1, .inr (4, [.int 0, .ref ed, .int 0]))]) [5, 6] (by decide) rfl
  have hKc := hK.sub (tys' := []) [] rfl
  have hFc := va_free (wc := [(mo, .inr (15, [.ref b1, .ref b2, .ref b3, .ref b4, .ref b5, .int 0])), (b1, .inr (4, [.int 0, .ref ed, .int 0]))]) hD hS hA [5, 6] rfl
  refine va_calli (va_runV (As := []) (rest := []) ⟨hx, hb, hml, hown, hts⟩ (z_addStructure l dC dI H.size ed mo b1 (.ref b2) (.ref b3) (.ref b4) (.ref b5) 0 0) (cwV 0 hts (pw_V q1248 q1249 q1250 q49 q1251) rfl rfl rfl (by decide +kernel) ⟨(Nat.le_of_ble_eq_true rfl), (Nat.le_of_ble_eq_true rfl)⟩) ⟨fun a U g mk q => by obtain ⟨q0, q1, qP, qK, qD, qZ⟩ := q; exact ⟨q0, q1, qP, va_K.moved (u := U) (U := U.calling g mk a) (Vm.Alike.refl U.vm) qK, qD, qZ.same rfl⟩, va_recv hKc hPc (ci := 15) (q0 := 0) rfl rfl, fun U hU hW => ⟨rfl, by rw [hU], by rw [hU]; exact hPc, va_K.moved hW.alike hKc, hDc.weaken (fun _ _ _ _ => trivial), hZ.call hS hFc hU hW⟩⟩ rfl rfl hl.1 rfl (lv_room (Nat.le_of_ble_eq_true rfl)) dL_law_252 ⟨(Nat.le_of_ble_eq_true rfl), (Nat.le_of_ble_eq_true rfl)⟩) hS (fun q _ h => hFc q h) hFc (fun r_483 u t H1 locs ht hvm hw hB hz1 hk1 hS => ?_)
  obtain ⟨qb_484, hP1, hK1, hD1⟩ := hB
  rw [ht] at hP1
  have hK1 := va_K.moved hvm.symm hK1
  obtain ⟨hP, hD⟩ := va_join (wr := [(a2, .inr (4, [.int 0, .ref ed, .int 0])), (a3, .inr (4, [.int 0, .ref ed, .int 0])), (a4, .inr (4, [.int 0, .ref ed, .int 0])), (tt, .inl (cT, 24, .inl (fun _ => 0))), (rr, .inr (6, [.ref t1, .ref t2, .int 0, .int 0, .long 0, .long 0])), (b2, .inr (4, [.int 0, .ref ed, .int 0])), (b3, .inr (4, [.int 0, .ref ed, .int 0])), (b4, .inr (4, [.int 0, .ref ed, .int 0])), (b5, .inr (4, [.int 0, .ref ed, .int 0])), (od, .inl (cD, 1, .inr (.inr (.inr (.inl (fun _ => 0)))))), (x, .inr (11, [.ref a1, .ref a2, .ref a3, .ref a4, .ref tt, .int 0, .ref rr, .ref cq])), (a1, .inr (4, [.int (0 + 1), .ref qb_482, .int 1])), (ou, .inl (cO, 1, .inr (.inl (vp_updL (fun _ => 0) 0 0))))]) (w1 := [(mo, .inr (15, [.ref b1, .ref b2, .ref b3, .ref b4, .ref b5, .int 0])), (b1, .inr (4, [.int (0 + 1), .ref qb_484, .int 1]))]) hP hD [5, 6] [0, 1, 2, 3, 4, 7, 8, 9, 10, 11, 12, 13, 14] rfl rfl (by decide) (by decide) hk1 hFc hP1 hD1
  have hK := (hK.sub (tys' := [(cT, .int), (cD, .double), (cO, .long)]) [0, 1, 2] rfl).app hK1
  generalize H1 = H at hP hS ⊢
  have hP : va_P (dC, dI) vwCl [(a2, .inr (4, [.int 0, .ref ed, .int 0])), (a3, .inr (4, [.int 0, .ref ed, .int 0])), (a4, .inr (4, [.int 0, .ref ed, .int 0])), (tt, .inl (cT, 24, .inl (fun _ => 0))), (rr, .inr (6, [.ref t1, .ref t2, .int 0, .int 0, .long 0, .long 0])), (b2, .inr (4, [.int 0, .ref ed, .int 0])), (b3, .inr (4, [.int 0, .ref ed, .int 0])), (b4, .inr (4, [.int 0, .ref ed, .int 0])), (b5, .inr (4, [.int 0, .ref ed, .int 0])), (od, .inl (cD, 1, .inr (.inr (.inr (.inl (fun _ => 0)))))), (x, .inr (11, [.ref a1, .ref a2, .ref a3, .ref a4, .ref tt, .int 0, .ref rr, .ref cq])), (a1, .inr (4, [.int (0 + 1), .ref qb_482, .int 1])), (ou, .inl (cO, 1, .inr (.inl (vp_updL (fun _ => 0) 0 0)))), (mo, .inr (15, [.ref b1, .ref b2, .ref b3, .ref b4, .ref b5, .int 0])), (b1, .inr (4, [.int (0 + 1), .ref qb_484, .int 1]))] H := hP
  have hD : va_D (fun q : Nat => s.heap.size ≤ q) [(a2, .inr (4, [.int 0, .ref ed, .int 0])), (a3, .inr (4, [.int 0, .ref ed, .int 0])), (a4, .inr (4, [.int 0, .ref ed, .int 0])), (tt, .inl (cT, 24, .inl (fun _ => 0))), (rr, .inr (6, [.ref t1, .ref t2, .int 0, .int 0, .long 0, .long 0])), (b2, .inr (4, [.int 0, .ref ed, .int 0])), (b3, .inr (4, [.int 0, .ref ed, .int 0])), (b4, .inr (4, [.int 0, .ref ed, .int 0])), (b5, .inr (4, [.int 0, .ref ed, .int 0])), (od, .inl (cD, 1, .inr (.inr (.inr (.inl (fun _ => 0)))))), (x, .inr (11, [.ref a1, .ref a2, .ref a3, .ref a4, .ref tt, .int 0, .ref rr, .ref cq])), (a1, .inr (4, [.int (0 + 1), .ref qb_482, .int 1])), (ou, .inl (cO, 1, .inr (.inl (vp_updL (fun _ => 0) 0 0)))), (mo, .inr (15, [.ref b1, .ref b2, .ref b3, .ref b4, .ref b5, .int 0])), (b1, .inr (4, [.int (0 + 1), .ref qb_484, .int 1]))] := hD
  have hK : va_K (dC, dI) vwCl [(cT, .int), (cD, .double), (cO, .long)] s := hK
  refine W.widen (k := 44) (n := 397) (Nat.le_of_ble_eq_true rfl) (Nat.le_of_ble_eq_true rfl) ?_
  have hw : r_483 = 0 := hw
  subst hw
  refine lv_istore (lv' := [(7, .int 0), (6, .int 0), (5, .int 0), (4, .ref od), (3, .ref ou), (2, .ref mo), (1, .ref x), (0, .ref b)]) hx hb dL_law_255 hl (by decide) rfl (fun ls hl => ?_)
  refine lv_aload_n hx hb dL_law_257 rfl (lv_at hl 5 rfl) ?_
  have hPc := hP.sub (ws' := [(mo, .inr (15, [.ref b1, .ref b2, .ref b3, .ref b4, .ref b5, .int 0]))]) [13] rfl
  have hDc := hD.sub (ws' := [(mo, .inr (15, [.ref b1, .ref b2, .ref b3, .ref b4, .ref b5, .int 0]))]) [13] (by decide) rfl
  have hKc := hK.sub (tys' := []) [] rfl
  have hFc := va_free (wc := [(mo, .inr (15, [.ref b1, .ref b2, .ref b3, .ref b4, .ref b5, .int 0]))]) hD hS hA [13] rfl
  refine va_calli (va_runV (As := []) (rest := []) ⟨hx, hb, hml, hown, hts⟩ (n_thrown l dC dI H.size mo (.ref b1) (.ref b2) (.ref b3) (.ref b4) (.ref b5) 0) (cwV 0 hts (pw_V q1244 q1245 q1246 q49 q1247) rfl rfl rfl (by decide +kernel) ⟨(Nat.le_of_ble_eq_true rfl), (Nat.le_of_ble_eq_true rfl)⟩) ⟨fun a U g mk q => by obtain ⟨q0, q1, qP, qK, qD⟩ := q; exact ⟨q0, q1, qP, va_K.moved (u := U) (U := U.calling g mk a) (Vm.Alike.refl U.vm) qK, qD⟩, va_recv hKc hPc (ci := 15) (q0 := 0) rfl rfl, fun U hU hW => ⟨rfl, by rw [hU], by rw [hU]; exact hPc, va_K.moved hW.alike hKc, hDc.weaken (fun _ _ _ _ => trivial)⟩⟩ rfl rfl hl.1 rfl (lv_room (Nat.le_of_ble_eq_true rfl)) dL_law_258 ⟨(Nat.le_of_ble_eq_true rfl), (Nat.le_of_ble_eq_true rfl)⟩) hS (fun q _ h => hFc q h) hFc (fun r_485 u t H1 locs ht hvm hw hB hz1 hk1 hS => ?_)
  obtain ⟨hP1, hK1, hD1⟩ := hB
  rw [ht] at hP1
  have hK1 := va_K.moved hvm.symm hK1
  obtain ⟨hP, hD⟩ := va_join (wr := [(a2, .inr (4, [.int 0, .ref ed, .int 0])), (a3, .inr (4, [.int 0, .ref ed, .int 0])), (a4, .inr (4, [.int 0, .ref ed, .int 0])), (tt, .inl (cT, 24, .inl (fun _ => 0))), (rr, .inr (6, [.ref t1, .ref t2, .int 0, .int 0, .long 0, .long 0])), (b2, .inr (4, [.int 0, .ref ed, .int 0])), (b3, .inr (4, [.int 0, .ref ed, .int 0])), (b4, .inr (4, [.int 0, .ref ed, .int 0])), (b5, .inr (4, [.int 0, .ref ed, .int 0])), (od, .inl (cD, 1, .inr (.inr (.inr (.inl (fun _ => 0)))))), (x, .inr (11, [.ref a1, .ref a2, .ref a3, .ref a4, .ref tt, .int 0, .ref rr, .ref cq])), (a1, .inr (4, [.int (0 + 1), .ref qb_482, .int 1])), (ou, .inl (cO, 1, .inr (.inl (vp_updL (fun _ => 0) 0 0)))), (b1, .inr (4, [.int (0 + 1), .ref qb_484, .int 1]))]) (w1 := [(mo, .inr (15, [.ref b1, .ref b2, .ref b3, .ref b4, .ref b5, .int 0]))]) hP hD [13] [0, 1, 2, 3, 4, 5, 6, 7, 8, 9, 10, 11, 12, 14] rfl rfl (by decide) (by decide) hk1 hFc hP1 hD1
  have hK := (hK.sub (tys' := [(cT, .int), (cD, .double), (cO, .long)]) [0, 1, 2] rfl).app hK1
  generalize H1 = H at hP hS ⊢
  have hP : va_P (dC, dI) vwCl [(a2, .inr (4, [.int 0, .ref ed, .int 0])), (a3, .inr (4, [.int 0, .ref ed, .int 0])), (a4, .inr (4, [.int 0, .ref ed, .int 0])), (tt, .inl (cT, 24, .inl (fun _ => 0))), (rr, .inr (6, [.ref t1, .ref t2, .int 0, .int 0, .long 0, .long 0])), (b2, .inr (4, [.int 0, .ref ed, .int 0])), (b3, .inr (4, [.int 0, .ref ed, .int 0])), (b4, .inr (4, [.int 0, .ref ed, .int 0])), (b5, .inr (4, [.int 0, .ref ed, .int 0])), (od, .inl (cD, 1, .inr (.inr (.inr (.inl (fun _ => 0)))))), (x, .inr (11, [.ref a1, .ref a2, .ref a3, .ref a4, .ref tt, .int 0, .ref rr, .ref cq])), (a1, .inr (4, [.int (0 + 1), .ref qb_482, .int 1])), (ou, .inl (cO, 1, .inr (.inl (vp_updL (fun _ => 0) 0 0)))), (b1, .inr (4, [.int (0 + 1), .ref qb_484, .int 1])), (mo, .inr (15, [.ref b1, .ref b2, .ref b3, .ref b4, .ref b5, .int 0]))] H := hP
  have hD : va_D (fun q : Nat => s.heap.size ≤ q) [(a2, .inr (4, [.int 0, .ref ed, .int 0])), (a3, .inr (4, [.int 0, .ref ed, .int 0])), (a4, .inr (4, [.int 0, .ref ed, .int 0])), (tt, .inl (cT, 24, .inl (fun _ => 0))), (rr, .inr (6, [.ref t1, .ref t2, .int 0, .int 0, .long 0, .long 0])), (b2, .inr (4, [.int 0, .ref ed, .int 0])), (b3, .inr (4, [.int 0, .ref ed, .int 0])), (b4, .inr (4, [.int 0, .ref ed, .int 0])), (b5, .inr (4, [.int 0, .ref ed, .int 0])), (od, .inl (cD, 1, .inr (.inr (.inr (.inl (fun _ => 0)))))), (x, .inr (11, [.ref a1, .ref a2, .ref a3, .ref a4, .ref tt, .int 0, .ref rr, .ref cq])), (a1, .inr (4, [.int (0 + 1), .ref qb_482, .int 1])), (ou, .inl (cO, 1, .inr (.inl (vp_updL (fun _ => 0) 0 0)))), (b1, .inr (4, [.int (0 + 1), .ref qb_484, .int 1])), (mo, .inr (15, [.ref b1, .ref b2, .ref b3, .ref b4, .ref b5, .int 0]))] := hD
  have hK : va_K (dC, dI) vwCl [(cT, .int), (cD, .double), (cO, .long)] s := hK
  refine W.widen (k := 44) (n := 397) (Nat.le_of_ble_eq_true rfl) (Nat.le_of_ble_eq_true rfl) ?_
  have hw : r_485 = 0 := hw
  subst hw
  refine lv_iload hx hb dL_law_261 (lv_at hl 1 rfl) ?_
  refine lv_icmp_eq (tgt := 268) hx hb dL_law_263 (by decide) (fun c_486 => ?_) (fun c_486 => absurd (by decide) c_486)
  refine lv_iload hx hb dL_law_268 (lv_at hl 1 rfl) ?_
  refine lv_if_ne (tgt := 285) hx hb dL_law_270 (by decide) (fun c_487 => absurd (by decide) c_487) (fun c_487 => ?_)
  refine lv_aload_n hx hb dL_law_273 rfl (lv_at hl 4 rfl) ?_
  refine lv_iconst (v := 0) hx hb dL_law_274 (by decide) ?_
  refine va_lald hx hb hK hP 12 2 rfl rfl (by unfold vp_in; decide) dL_law_275 ?_
  refine lv_numL (v := 0) (by decide) ?_
  refine lv_iload hx hb dL_law_276 (lv_at hl 0 rfl) ?_
  refine lv_i2l (v := 0) hx hb dL_law_278 (by decide) ?_
  refine W.lcmp hx hb dL_law_279 ?_
  refine lv_numI (v := 0) (by decide) ?_
  refine lv_if_eq (tgt := 285) hx hb dL_law_280 (by decide) (fun c_488 => ?_) (fun c_488 => absurd (by decide) c_488)
  refine lv_goto (tgt := 3072) hx hb dL_law_285 (by decide) ?_
  refine W.widen (k := 100) (n := 1000) (Nat.le_of_ble_eq_true rfl) (Nat.le_of_ble_eq_true rfl) ?_
  exact law_tail l C0 hS (lv_sub hl [2, 7] rfl)
set_option maxHeartbeats 4000000 in
set_option maxRecDepth 100000 in
theorem law_case_1 {p : Program} {e : Env} {s : State} {m : MethodId} {below : List Frame} {meth : Method} {c : Code} (l : Launch) (hl9 : l.stackTraces = false) (dC : Nat → ClassId) (dI : Nat → Nat → Nat) (ed : Nat) {b : Nat} {xs : Nat → Int32} (C0 : lw_At p s m meth c b 5 xs) (hZ : pz ed (fun q : Nat => s.heap.size ≤ q) s s.heap) (x a1 a2 a3 a4 tt rr cq t1 t2 mo b1 b2 b3 b4 b5 ou od : Nat) (cT cO cD : ClassId) {H : Heap} {locs : List Loc} (hK : va_K (dC, dI) vwCl [(cT, .int), (cO, .long), (cD, .double)] s) (hP : va_P (dC, dI) vwCl [(x, .inr (11, [.ref a1, .ref a2, .ref a3, .ref a4, .ref tt, .int 0, .ref rr, .ref cq])), (a1, .inr (4, [.int 0, .ref ed, .int 0])), (a2, .inr (4, [.int 0, .ref ed, .int 0])), (a3, .inr (4, [.int 0, .ref ed, .int 0])), (a4, .inr (4, [.int 0, .ref ed, .int 0])), (tt, .inl (cT, 24, .inl (fun _ => 0))), (rr, .inr (6, [.ref t1, .ref t2, .int 0, .int 0, .long 0, .long 0])), (mo, .inr (15, [.ref b1, .ref b2, .ref b3, .ref b4, .ref b5, .int 0])), (b1, .inr (4, [.int 0, .ref ed, .int 0])), (b2, .inr (4, [.int 0, .ref ed, .int 0])), (b3, .inr (4, [.int 0, .ref ed, .int 0])), (b4, .inr (4, [.int 0, .ref ed, .int 0])), (b5, .inr (4, [.int 0, .ref ed, .int 0])), (ou, .inl (cO, 1, .inr (.inl (fun _ => 0)))), (od, .inl (cD, 1, .inr (.inr (.inr (.inl (fun _ => 0))))))] H) (hD : va_D (fun q : Nat => s.heap.size ≤ q) [(x, .inr (11, [.ref a1, .ref a2, .ref a3, .ref a4, .ref tt, .int 0, .ref rr, .ref cq])), (a1, .inr (4, [.int 0, .ref ed, .int 0])), (a2, .inr (4, [.int 0, .ref ed, .int 0])), (a3, .inr (4, [.int 0, .ref ed, .int 0])), (a4, .inr (4, [.int 0, .ref ed, .int 0])), (tt, .inl (cT, 24, .inl (fun _ => 0))), (rr, .inr (6, [.ref t1, .ref t2, .int 0, .int 0, .long 0, .long 0])), (mo, .inr (15, [.ref b1, .ref b2, .ref b3, .ref b4, .ref b5, .int 0])), (b1, .inr (4, [.int 0, .ref ed, .int 0])), (b2, .inr (4, [.int 0, .ref ed, .int 0])), (b3, .inr (4, [.int 0, .ref ed, .int 0])), (b4, .inr (4, [.int 0, .ref ed, .int 0])), (b5, .inr (4, [.int 0, .ref ed, .int 0])), (ou, .inl (cO, 1, .inr (.inl (fun _ => 0)))), (od, .inl (cD, 1, .inr (.inr (.inr (.inl (fun _ => 0))))))]) (hS : va_S (fun q : Nat => s.heap.size ≤ q) s.heap H locs) {ls : Array Slot} (hl : lv_has ls 9 [(5, .int 0), (4, .ref od), (3, .ref ou), (2, .ref mo), (1, .ref x), (0, .ref b)]) : W p l e room_1 s m #[Value.ref b] below meth c H locs 27 298 (lw_Z below #[Value.ref b] s) (F0 m 288 ls []) := by
  obtain ⟨hx, hb, hr, hml, hown, hts0, hX, hbl, hlocks, hgv⟩ := id C0
  have hts : ∀ w ∈ pw_all, w.before #[Value.ref b] s = true := fun w h => hts0 w (pw_tbl h)
  have hA : ∀ q : Nat, s.heap.size ≤ q → (fun q : Nat => s.heap.size ≤ q) q := fun _ h => h
  have hbA : ¬ (fun q : Nat => s.heap.size ≤ q) b := Nat.not_le.mpr hbl
  refine lv_aload_n hx hb dL_law_288 rfl (lv_at hl 4 rfl) ?_
  refine lv_aload_n hx hb dL_law_289 rfl (lv_at hl 5 rfl) ?_
  refine lv_iload hx hb dL_law_290 (lv_at hl 0 rfl) ?_
  refine lv_iconst (v := 1) hx hb dL_law_292 (by decide) ?_
  refine lv_iadd hx hb dL_law_293 ?_
  refine lv_numI (v := 1) (by decide) ?_
  refine va_sld hx hb hX hbl hbA hS (by unfold vp_in; decide) dL_law_294 ?_
  refine lv_aload_n hx hb dL_law_295 rfl (lv_at hl 5 rfl) ?_
  refine lv_iload hx hb dL_law_296 (lv_at hl 0 rfl) ?_
  refine lv_iconst (v := 2) hx hb dL_law_298 (by decide) ?_
  refine lv_iadd hx hb dL_law_299 ?_
  refine lv_numI (v := 2) (by decide) ?_
  refine va_sld hx hb hX hbl hbA hS (by unfold vp_in; decide) dL_law_300 ?_
  refine lv_aload_n hx hb dL_law_301 rfl (lv_at hl 5 rfl) ?_
  refine lv_iload hx hb dL_law_302 (lv_at hl 0 rfl) ?_
  refine lv_iconst (v := 3) hx hb dL_law_304 (by decide) ?_
  refine lv_iadd hx hb dL_law_305 ?_
  refine lv_numI (v := 3) (by decide) ?_
  refine va_sld hx hb hX hbl hbA hS (by unfold vp_in; decide) dL_law_306 ?_
  refine lv_aload_n hx hb dL_law_307 rfl (lv_at hl 5 rfl) ?_
  refine lv_iload hx hb dL_law_308 (lv_at hl 0 rfl) ?_
  refine lv_iconst (v := 4) hx hb dL_law_310 (by decide) ?_
  refine lv_iadd hx hb dL_law_311 ?_
  refine lv_numI (v := 4) (by decide) ?_
  refine va_sld hx hb hX hbl hbA hS (by unfold vp_in; decide) dL_law_312 ?_
  refine lv_aload_n hx hb dL_law_313 rfl (lv_at hl 2 rfl) ?_
  have hPc := hP.sub (ws' := [(x, .inr (11, [.ref a1, .ref a2, .ref a3, .ref a4, .ref tt, .int 0, .ref rr, .ref cq])), (a1, .inr (4, [.int 0, .ref ed, .int 0]))]) [0, 1] rfl
  have hDc := hD.sub (ws' := [(x, .inr (11, [.ref a1, .ref a2, .ref a3, .ref a4, .ref tt, .int 0, .ref rr, .ref cq])), (a1, .inr (4, [.int 0, .ref ed, .int 0]))]) [0, 1] (by decide) rfl
  have hKc := hK.sub (tys' := []) [] rfl
  have hFc := va_free (wc := [(x, .inr (11, [.ref a1, .ref a2, .ref a3, .ref a4, .ref tt, .int 0, .ref rr, .ref cq])), (a1, .inr (4, [.int 0, .ref ed, .int 0]))]) hD hS hA [0, 1] rfl
  refine va_calli (vx_runSW (As := [.ref x, .int (xs (Int32.toNatClampNeg 1)), .int (xs (Int32.toNatClampNeg 2)), .int (xs (Int32.toNatClampNeg 3)), .int (xs (Int32.toNatClampNeg 4)), .ref ou]) (rest := []) ⟨hx, hb, hml, hown, hts⟩ (w_addMass l hl9 dC dI H.size ed x a1 (.ref a2) (.ref a3) (.ref a4) (.ref tt) (.int 0) (.ref rr) (.ref cq) (.int 0) (.ref ed) (xs (Int32.toNatClampNeg 1)) (xs (Int32.toNatClampNeg 2)) (xs (Int32.toNatClampNeg 3)) (xs (Int32.toNatClampNeg 4)) ou) (vx_cwSW 6 hts (pw_S q499 q500 q42 q501) rfl rfl rfl (by decide +kernel) ⟨(Nat.le_of_ble_eq_true rfl), (Nat.le_of_ble_eq_true rfl)⟩) ⟨fun a U g mk q => by obtain ⟨q0, q1, qP, qK, qD, qZ⟩ := q; exact ⟨q0, q1, qP, va_K.moved (u := U) (U := U.calling g mk a) (Vm.Alike.refl U.vm) qK, qD, qZ.same rfl⟩, fun U hU hW => ⟨rfl, by rw [hU], by rw [hU]; exact hPc, va_K.moved hW.alike hKc, hDc.weaken (fun _ _ _ _ => trivial), hZ.call hS hFc hU hW⟩⟩ rfl rfl hl.1 rfl (lv_room (Nat.le_of_ble_eq_true rfl)) dL_law_314 ⟨(Nat.le_of_ble_eq_true rfl), (Nat.le_of_ble_eq_true rfl)⟩) hS (fun q _ h => hFc q h) hFc (fun r_489 u t H1 locs ht hvm hw hB hz1 hk1 hS => ?_)
  obtain ⟨hP1, hK1, hD1⟩ := hB
  rw [ht] at hP1
  have hK1 := va_K.moved hvm.symm hK1
  obtain ⟨hP, hD⟩ := va_join (wr := [(a2, .inr (4, [.int 0, .ref ed, .int 0])), (a3, .inr (4, [.int 0, .ref ed, .int 0])), (a4, .inr (4, [.int 0, .ref ed, .int 0])), (tt, .inl (cT, 24, .inl (fun _ => 0))), (rr, .inr (6, [.ref t1, .ref t2, .int 0, .int 0, .long 0, .long 0])), (mo, .inr (15, [.ref b1, .ref b2, .ref b3, .ref b4, .ref b5, .int 0])), (b1, .inr (4, [.int 0, .ref ed, .int 0])), (b2, .inr (4, [.int 0, .ref ed, .int 0])), (b3, .inr (4, [.int 0, .ref ed, .int 0])), (b4, .inr (4, [.int 0, .ref ed, .int 0])), (b5, .inr (4, [.int 0, .ref ed, .int 0])), (ou, .inl (cO, 1, .inr (.inl (fun _ => 0)))), (od, .inl (cD, 1, .inr (.inr (.inr (.inl (fun _ => 0))))))]) (w1 := [(x, .inr (11, [.ref a1, .ref a2, .ref a3, .ref a4, .ref tt, .int 0, .ref rr, .ref cq])), (a1, .inr (4, [.int 0, .ref ed, .int 0]))]) hP hD [0, 1] [2, 3, 4, 5, 6, 7, 8, 9, 10, 11, 12, 13, 14] rfl rfl (by decide) (by decide) hk1 hFc hP1 hD1
  have hK := (hK.sub (tys' := [(cT, .int), (cO, .long), (cD, .double)]) [0, 1, 2] rfl).app hK1
  generalize H1 = H at hP hS ⊢
  have hP : va_P (dC, dI) vwCl [(a2, .inr (4, [.int 0, .ref ed, .int 0])), (a3, .inr (4, [.int 0, .ref ed, .int 0])), (a4, .inr (4, [.int 0, .ref ed, .int 0])), (tt, .inl (cT, 24, .inl (fun _ => 0))), (rr, .inr (6, [.ref t1, .ref t2, .int 0, .int 0, .long 0, .long 0])), (mo, .inr (15, [.ref b1, .ref b2, .ref b3, .ref b4, .ref b5, .int 0])), (b1, .inr (4, [.int 0, .ref ed, .int 0])), (b2, .inr (4, [.int 0, .ref ed, .int 0])), (b3, .inr (4, [.int 0, .ref ed, .int 0])), (b4, .inr (4, [.int 0, .ref ed, .int 0])), (b5, .inr (4, [.int 0, .ref ed, .int 0])), (ou, .inl (cO, 1, .inr (.inl (fun _ => 0)))), (od, .inl (cD, 1, .inr (.inr (.inr (.inl (fun _ => 0)))))), (x, .inr (11, [.ref a1, .ref a2, .ref a3, .ref a4, .ref tt, .int 0, .ref rr, .ref cq])), (a1, .inr (4, [.int 0, .ref ed, .int 0]))] H := hP
  have hD : va_D (fun q : Nat => s.heap.size ≤ q) [(a2, .inr (4, [.int 0, .ref ed, .int 0])), (a3, .inr (4, [.int 0, .ref ed, .int 0])), (a4, .inr (4, [.int 0, .ref ed, .int 0])), (tt, .inl (cT, 24, .inl (fun _ => 0))), (rr, .inr (6, [.ref t1, .ref t2, .int 0, .int 0, .long 0, .long 0])), (mo, .inr (15, [.ref b1, .ref b2, .ref b3, .ref b4, .ref b5, .int 0])), (b1, .inr (4, [.int 0, .ref ed, .int 0])), (b2, .inr (4, [.int 0, .ref ed, .int 0])), (b3, .inr (4, [.int 0, .ref ed, .int 0])), (b4, .inr (4, [.int 0, .ref ed, .int 0])), (b5, .inr (4, [.int 0, .ref ed, .int 0])), (ou, .inl (cO, 1, .inr (.inl (fun _ => 0)))), (od, .inl (cD, 1, .inr (.inr (.inr (.inl (fun _ => 0)))))), (x, .inr (11, [.ref a1, .ref a2, .ref a3, .ref a4, .ref tt, .int 0, .ref rr, .ref cq])), (a1, .inr (4, [.int 0, .ref ed, .int 0]))] := hD
  have hK : va_K (dC, dI) vwCl [(cT, .int), (cO, .long), (cD, .double)] s := hK
  refine W.widen (k := 28) (n := 304) (Nat.le_of_ble_eq_true rfl) (Nat.le_of_ble_eq_true rfl) ?_
  have hw : r_489 = 1 := hw
  subst hw
  refine lv_istore (lv' := [(6, .int 1), (5, .int 0), (4, .ref od), (3, .ref ou), (2, .ref mo), (1, .ref x), (0, .ref b)]) hx hb dL_law_317 hl (by decide) rfl (fun ls hl => ?_)
  refine lv_aload_n hx hb dL_law_319 rfl (lv_at hl 4 rfl) ?_
  refine lv_aload_n hx hb dL_law_320 rfl (lv_at hl 6 rfl) ?_
  refine lv_iload hx hb dL_law_321 (lv_at hl 1 rfl) ?_
  refine lv_iconst (v := 1) hx hb dL_law_323 (by decide) ?_
  refine lv_iadd hx hb dL_law_324 ?_
  refine lv_numI (v := 1) (by decide) ?_
  refine va_sld hx hb hX hbl hbA hS (by unfold vp_in; decide) dL_law_325 ?_
  refine lv_aload_n hx hb dL_law_326 rfl (lv_at hl 6 rfl) ?_
  refine lv_iload hx hb dL_law_327 (lv_at hl 1 rfl) ?_
  refine lv_iconst (v := 2) hx hb dL_law_329 (by decide) ?_
  refine lv_iadd hx hb dL_law_330 ?_
  refine lv_numI (v := 2) (by decide) ?_
  refine va_sld hx hb hX hbl hbA hS (by unfold vp_in; decide) dL_law_331 ?_
  refine lv_aload_n hx hb dL_law_332 rfl (lv_at hl 6 rfl) ?_
  refine lv_iload hx hb dL_law_333 (lv_at hl 1 rfl) ?_
  refine lv_iconst (v := 3) hx hb dL_law_335 (by decide) ?_
  refine lv_iadd hx hb dL_law_336 ?_
  refine lv_numI (v := 3) (by decide) ?_
  refine va_sld hx hb hX hbl hbA hS (by unfold vp_in; decide) dL_law_337 ?_
  refine lv_aload_n hx hb dL_law_338 rfl (lv_at hl 6 rfl) ?_
  refine lv_iload hx hb dL_law_339 (lv_at hl 1 rfl) ?_
  refine lv_iconst (v := 4) hx hb dL_law_341 (by decide) ?_
  refine lv_iadd hx hb dL_law_342 ?_
  refine lv_numI (v := 4) (by decide) ?_
  refine va_sld hx hb hX hbl hbA hS (by unfold vp_in; decide) dL_law_343 ?_
  have hPc := hP.sub (ws' := [(mo, .inr (15, [.ref b1, .ref b2, .ref b3, .ref b4, .ref b5, .int 0])), (b1, .inr (4, [.int 0, .ref ed, .int 0]))]) [5, 6] rfl
  have hDc := hD.sub (ws' := [(mo, .inr (15, [.ref b1, .ref b2, .ref b3, .ref b4, .ref b5, .int 0])), (b1, .inr (4, [.int 0, .ref ed, .int 0]))]) [5, 6] (by decide) rfl
  have hKc := hK.sub (tys' := []) [] rfl
  have hFc := va_free (wc := [(mo, .inr (15, [.ref b1, .ref b2, .ref b3, .ref b4, .ref b5, .int 0])), (b1, .inr (4, [.int 0, .ref ed, .int 0]))]) hD hS hA [5, 6] rfl
  refine va_calli (va_runV (As := [.int (xs (Int32.toNatClampNeg 1)), .int (xs (Int32.toNatClampNeg 2)), .int (xs (Int32.toNatClampNeg 3)), .int (xs (Int32.toNatClampNeg 4))]) (rest := []) ⟨hx, hb, hml, hown, hts⟩ (y_addMass l dC dI H.size mo b1 (.ref b2) (.ref b3) (.ref b4) (.ref b5) (.int 0) (.ref ed) 0 (xs (Int32.toNatClampNeg 1)) (xs (Int32.toNatClampNeg 2)) (xs (Int32.toNatClampNeg 3)) (xs (Int32.toNatClampNeg 4))) (cwV 4 hts (pw_V q1291 q1292 q1293 q49 q1294) rfl rfl rfl (by decide +kernel) ⟨(Nat.le_of_ble_eq_true rfl), (Nat.le_of_ble_eq_true rfl)⟩) ⟨fun a U g mk q => by obtain ⟨q0, q1, qP, qK, qD⟩ := q; exact ⟨q0, q1, qP, va_K.moved (u := U) (U := U.calling g mk a) (Vm.Alike.refl U.vm) qK, qD⟩, va_recv hKc hPc (ci := 15) (q0 := 0) rfl rfl, fun U hU hW => ⟨rfl, by rw [hU], by rw [hU]; exact hPc, va_K.moved hW.alike hKc, hDc.weaken (fun _ _ _ _ => trivial)⟩⟩ rfl rfl hl.1 rfl (lv_room (Nat.le_of_ble_eq_true rfl)) dL_law_344 ⟨(Nat.le_of_ble_eq_true rfl), (Nat.le_of_ble_eq_true rfl)⟩) hS (fun q _ h => hFc q h) hFc (fun r_490 u t H1 locs ht hvm hw hB hz1 hk1 hS => ?_)
  obtain ⟨hP1, hK1, hD1⟩ := hB
  rw [ht] at hP1
  have hK1 := va_K.moved hvm.symm hK1
  obtain ⟨hP, hD⟩ := va_join (wr := [(a2, .inr (4, [.int 0, .ref ed, .int 0])), (a3, .inr (4, [.int 0, .ref ed, .int 0])), (a4, .inr (4, [.int 0, .ref ed, .int 0])), (tt, .inl (cT, 24, .inl (fun _ => 0))), (rr, .inr (6, [.ref t1, .ref t2, .int 0, .int 0, .long 0, .long 0])), (b2, .inr (4, [.int 0, .ref ed, .int 0])), (b3, .inr (4, [.int 0, .ref ed, .int 0])), (b4, .inr (4, [.int 0, .ref ed, .int 0])), (b5, .inr (4, [.int 0, .ref ed, .int 0])), (ou, .inl (cO, 1, .inr (.inl (fun _ => 0)))), (od, .inl (cD, 1, .inr (.inr (.inr (.inl (fun _ => 0)))))), (x, .inr (11, [.ref a1, .ref a2, .ref a3, .ref a4, .ref tt, .int 0, .ref rr, .ref cq])), (a1, .inr (4, [.int 0, .ref ed, .int 0]))]) (w1 := [(mo, .inr (15, [.ref b1, .ref b2, .ref b3, .ref b4, .ref b5, .int 1])), (b1, .inr (4, [.int 0, .ref ed, .int 0]))]) hP hD [5, 6] [0, 1, 2, 3, 4, 7, 8, 9, 10, 11, 12, 13, 14] rfl rfl (by decide) (by decide) hk1 hFc hP1 hD1
  have hK := (hK.sub (tys' := [(cT, .int), (cO, .long), (cD, .double)]) [0, 1, 2] rfl).app hK1
  generalize H1 = H at hP hS ⊢
  have hP : va_P (dC, dI) vwCl [(a2, .inr (4, [.int 0, .ref ed, .int 0])), (a3, .inr (4, [.int 0, .ref ed, .int 0])), (a4, .inr (4, [.int 0, .ref ed, .int 0])), (tt, .inl (cT, 24, .inl (fun _ => 0))), (rr, .inr (6, [.ref t1, .ref t2, .int 0, .int 0, .long 0, .long 0])), (b2, .inr (4, [.int 0, .ref ed, .int 0])), (b3, .inr (4, [.int 0, .ref ed, .int 0])), (b4, .inr (4, [.int 0, .ref ed, .int 0])), (b5, .inr (4, [.int 0, .ref ed, .int 0])), (ou, .inl (cO, 1, .inr (.inl (fun _ => 0)))), (od, .inl (cD, 1, .inr (.inr (.inr (.inl (fun _ => 0)))))), (x, .inr (11, [.ref a1, .ref a2, .ref a3, .ref a4, .ref tt, .int 0, .ref rr, .ref cq])), (a1, .inr (4, [.int 0, .ref ed, .int 0])), (mo, .inr (15, [.ref b1, .ref b2, .ref b3, .ref b4, .ref b5, .int 1])), (b1, .inr (4, [.int 0, .ref ed, .int 0]))] H := hP
  have hD : va_D (fun q : Nat => s.heap.size ≤ q) [(a2, .inr (4, [.int 0, .ref ed, .int 0])), (a3, .inr (4, [.int 0, .ref ed, .int 0])), (a4, .inr (4, [.int 0, .ref ed, .int 0])), (tt, .inl (cT, 24, .inl (fun _ => 0))), (rr, .inr (6, [.ref t1, .ref t2, .int 0, .int 0, .long 0, .long 0])), (b2, .inr (4, [.int 0, .ref ed, .int 0])), (b3, .inr (4, [.int 0, .ref ed, .int 0])), (b4, .inr (4, [.int 0, .ref ed, .int 0])), (b5, .inr (4, [.int 0, .ref ed, .int 0])), (ou, .inl (cO, 1, .inr (.inl (fun _ => 0)))), (od, .inl (cD, 1, .inr (.inr (.inr (.inl (fun _ => 0)))))), (x, .inr (11, [.ref a1, .ref a2, .ref a3, .ref a4, .ref tt, .int 0, .ref rr, .ref cq])), (a1, .inr (4, [.int 0, .ref ed, .int 0])), (mo, .inr (15, [.ref b1, .ref b2, .ref b3, .ref b4, .ref b5, .int 1])), (b1, .inr (4, [.int 0, .ref ed, .int 0]))] := hD
  have hK : va_K (dC, dI) vwCl [(cT, .int), (cO, .long), (cD, .double)] s := hK
  refine W.widen (k := 28) (n := 304) (Nat.le_of_ble_eq_true rfl) (Nat.le_of_ble_eq_true rfl) ?_
  have hw : r_490 = 0 := hw
  subst hw
  refine lv_istore (lv' := [(7, .int 0), (6, .int 1), (5, .int 0), (4, .ref od), (3, .ref ou), (2, .ref mo), (1, .ref x), (0, .ref b)]) hx hb dL_law_347 hl (by decide) rfl (fun ls hl => ?_)
  refine lv_aload_n hx hb dL_law_349 rfl (lv_at hl 5 rfl) ?_
  have hPc := hP.sub (ws' := [(mo, .inr (15, [.ref b1, .ref b2, .ref b3, .ref b4, .ref b5, .int 1]))]) [13] rfl
  have hDc := hD.sub (ws' := [(mo, .inr (15, [.ref b1, .ref b2, .ref b3, .ref b4, .ref b5, .int 1]))]) [13] (by decide) rfl
  have hKc := hK.sub (tys' := []) [] rfl
  have hFc := va_free (wc := [(mo, .inr (15, [.ref b1, .ref b2, .ref b3, .ref b4, .ref b5, .int 1]))]) hD hS hA [13] rfl
  refine va_calli (va_runV (As := []) (rest := []) ⟨hx, hb, hml, hown, hts⟩ (n_thrown l dC dI H.size mo (.ref b1) (.ref b2) (.ref b3) (.ref b4) (.ref b5) 1) (cwV 0 hts (pw_V q1244 q1245 q1246 q49 q1247) rfl rfl rfl (by decide +kernel) ⟨(Nat.le_of_ble_eq_true rfl), (Nat.le_of_ble_eq_true rfl)⟩) ⟨fun a U g mk q => by obtain ⟨q0, q1, qP, qK, qD⟩ := q; exact ⟨q0, q1, qP, va_K.moved (u := U) (U := U.calling g mk a) (Vm.Alike.refl U.vm) qK, qD⟩, va_recv hKc hPc (ci := 15) (q0 := 0) rfl rfl, fun U hU hW => ⟨rfl, by rw [hU], by rw [hU]; exact hPc, va_K.moved hW.alike hKc, hDc.weaken (fun _ _ _ _ => trivial)⟩⟩ rfl rfl hl.1 rfl (lv_room (Nat.le_of_ble_eq_true rfl)) dL_law_350 ⟨(Nat.le_of_ble_eq_true rfl), (Nat.le_of_ble_eq_true rfl)⟩) hS (fun q _ h => hFc q h) hFc (fun r_491 u t H1 locs ht hvm hw hB hz1 hk1 hS => ?_)
  obtain ⟨hP1, hK1, hD1⟩ := hB
  rw [ht] at hP1
  have hK1 := va_K.moved hvm.symm hK1
  obtain ⟨hP, hD⟩ := va_join (wr := [(a2, .inr (4, [.int 0, .ref ed, .int 0])), (a3, .inr (4, [.int 0, .ref ed, .int 0])), (a4, .inr (4, [.int 0, .ref ed, .int 0])), (tt, .inl (cT, 24, .inl (fun _ => 0))), (rr, .inr (6, [.ref t1, .ref t2, .int 0, .int 0, .long 0, .long 0])), (b2, .inr (4, [.int 0, .ref ed, .int 0])), (b3, .inr (4, [.int 0, .ref ed, .int 0])), (b4, .inr (4, [.int 0, .ref ed, .int 0])), (b5, .inr (4, [.int 0, .ref ed, .int 0])), (ou, .inl (cO, 1, .inr (.inl (fun _ => 0)))), (od, .inl (cD, 1, .inr (.inr (.inr (.inl (fun _ => 0)))))), (x, .inr (11, [.ref a1, .ref a2, .ref a3, .ref a4, .ref tt, .int 0, .ref rr, .ref cq])), (a1, .inr (4, [.int 0, .ref ed, .int 0])), (b1, .inr (4, [.int 0, .ref ed, .int 0]))]) (w1 := [(mo, .inr (15, [.ref b1, .ref b2, .ref b3, .ref b4, .ref b5, .int 1]))]) hP hD [13] [0, 1, 2, 3, 4, 5, 6, 7, 8, 9, 10, 11, 12, 14] rfl rfl (by decide) (by decide) hk1 hFc hP1 hD1
  have hK := (hK.sub (tys' := [(cT, .int), (cO, .long), (cD, .double)]) [0, 1, 2] rfl).app hK1
  generalize H1 = H at hP hS ⊢
  have hP : va_P (dC, dI) vwCl [(a2, .inr (4, [.int 0, .ref ed, .int 0])), (a3, .inr (4, [.int 0, .ref ed, .int 0])), (a4, .inr (4, [.int 0, .ref ed, .int 0])), (tt, .inl (cT, 24, .inl (fun _ => 0))), (rr, .inr (6, [.ref t1, .ref t2, .int 0, .int 0, .long 0, .long 0])), (b2, .inr (4, [.int 0, .ref ed, .int 0])), (b3, .inr (4, [.int 0, .ref ed, .int 0])), (b4, .inr (4, [.int 0, .ref ed, .int 0])), (b5, .inr (4, [.int 0, .ref ed, .int 0])), (ou, .inl (cO, 1, .inr (.inl (fun _ => 0)))), (od, .inl (cD, 1, .inr (.inr (.inr (.inl (fun _ => 0)))))), (x, .inr (11, [.ref a1, .ref a2, .ref a3, .ref a4, .ref tt, .int 0, .ref rr, .ref cq])), (a1, .inr (4, [.int 0, .ref ed, .int 0])), (b1, .inr (4, [.int 0, .ref ed, .int 0])), (mo, .inr (15, [.ref b1, .ref b2, .ref b3, .ref b4, .ref b5, .int 1]))] H := hP
  have hD : va_D (fun q : Nat => s.heap.size ≤ q) [(a2, .inr (4, [.int 0, .ref ed, .int 0])), (a3, .inr (4, [.int 0, .ref ed, .int 0])), (a4, .inr (4, [.int 0, .ref ed, .int 0])), (tt, .inl (cT, 24, .inl (fun _ => 0))), (rr, .inr (6, [.ref t1, .ref t2, .int 0, .int 0, .long 0, .long 0])), (b2, .inr (4, [.int 0, .ref ed, .int 0])), (b3, .inr (4, [.int 0, .ref ed, .int 0])), (b4, .inr (4, [.int 0, .ref ed, .int 0])), (b5, .inr (4, [.int 0, .ref ed, .int 0])), (ou, .inl (cO, 1, .inr (.inl (fun _ => 0)))), (od, .inl (cD, 1, .inr (.inr (.inr (.inl (fun _ => 0)))))), (x, .inr (11, [.ref a1, .ref a2, .ref a3, .ref a4, .ref tt, .int 0, .ref rr, .ref cq])), (a1, .inr (4, [.int 0, .ref ed, .int 0])), (b1, .inr (4, [.int 0, .ref ed, .int 0])), (mo, .inr (15, [.ref b1, .ref b2, .ref b3, .ref b4, .ref b5, .int 1]))] := hD
  have hK : va_K (dC, dI) vwCl [(cT, .int), (cO, .long), (cD, .double)] s := hK
  refine W.widen (k := 28) (n := 304) (Nat.le_of_ble_eq_true rfl) (Nat.le_of_ble_eq_true rfl) ?_
  have hw : r_491 = 1 := hw
  subst hw
  refine lv_iload hx hb dL_law_353 (lv_at hl 1 rfl) ?_
  refine lv_icmp_eq (tgt := 360) hx hb dL_law_355 (by decide) (fun c_492 => ?_) (fun c_492 => absurd (by decide) c_492)
  refine lv_iload hx hb dL_law_360 (lv_at hl 1 rfl) ?_
  refine lv_if_ne (tgt := 377) hx hb dL_law_362 (by decide) (fun c_493 => ?_) (fun c_493 => absurd c_493 (by decide))
  refine lv_goto (tgt := 3072) hx hb dL_law_377 (by decide) ?_
  refine W.widen (k := 100) (n := 1000) (Nat.le_of_ble_eq_true rfl) (Nat.le_of_ble_eq_true rfl) ?_
  exact law_tail l C0 hS (lv_sub hl [2, 7] rfl)
set_option maxHeartbeats 4000000 in
set_option maxRecDepth 100000 in
theorem law_case_2 {p : Program} {e : Env} {s : State} {m : MethodId} {below : List Frame} {meth : Method} {c : Code} (l : Launch) (hl9 : l.stackTraces = false) (dC : Nat → ClassId) (dI : Nat → Nat → Nat) (ed : Nat) {b : Nat} {xs : Nat → Int32} (C0 : lw_At p s m meth c b 5 xs) (hZ : pz ed (fun q : Nat => s.heap.size ≤ q) s s.heap) (x a1 a2 a3 a4 tt rr cq t1 t2 mo b1 b2 b3 b4 b5 ou od : Nat) (cT cO cD : ClassId) {H : Heap} {locs : List Loc} (hK : va_K (dC, dI) vwCl [(cT, .int), (cO, .long), (cD, .double)] s) (hP : va_P (dC, dI) vwCl [(x, .inr (11, [.ref a1, .ref a2, .ref a3, .ref a4, .ref tt, .int 0, .ref rr, .ref cq])), (a1, .inr (4, [.int 0, .ref ed, .int 0])), (a2, .inr (4, [.int 0, .ref ed, .int 0])), (a3, .inr (4, [.int 0, .ref ed, .int 0])), (a4, .inr (4, [.int 0, .ref ed, .int 0])), (tt, .inl (cT, 24, .inl (fun _ => 0))), (rr, .inr (6, [.ref t1, .ref t2, .int 0, .int 0, .long 0, .long 0])), (mo, .inr (15, [.ref b1, .ref b2, .ref b3, .ref b4, .ref b5, .int 0])), (b1, .inr (4, [.int 0, .ref ed, .int 0])), (b2, .inr (4, [.int 0, .ref ed, .int 0])), (b3, .inr (4, [.int 0, .ref ed, .int 0])), (b4, .inr (4, [.int 0, .ref ed, .int 0])), (b5, .inr (4, [.int 0, .ref ed, .int 0])), (ou, .inl (cO, 1, .inr (.inl (fun _ => 0)))), (od, .inl (cD, 1, .inr (.inr (.inr (.inl (fun _ => 0))))))] H) (hD : va_D (fun q : Nat => s.heap.size ≤ q) [(x, .inr (11, [.ref a1, .ref a2, .ref a3, .ref a4, .ref tt, .int 0, .ref rr, .ref cq])), (a1, .inr (4, [.int 0, .ref ed, .int 0])), (a2, .inr (4, [.int 0, .ref ed, .int 0])), (a3, .inr (4, [.int 0, .ref ed, .int 0])), (a4, .inr (4, [.int 0, .ref ed, .int 0])), (tt, .inl (cT, 24, .inl (fun _ => 0))), (rr, .inr (6, [.ref t1, .ref t2, .int 0, .int 0, .long 0, .long 0])), (mo, .inr (15, [.ref b1, .ref b2, .ref b3, .ref b4, .ref b5, .int 0])), (b1, .inr (4, [.int 0, .ref ed, .int 0])), (b2, .inr (4, [.int 0, .ref ed, .int 0])), (b3, .inr (4, [.int 0, .ref ed, .int 0])), (b4, .inr (4, [.int 0, .ref ed, .int 0])), (b5, .inr (4, [.int 0, .ref ed, .int 0])), (ou, .inl (cO, 1, .inr (.inl (fun _ => 0)))), (od, .inl (cD, 1, .inr (.inr (.inr (.inl (fun _ => 0))))))]) (hS : va_S (fun q : Nat => s.heap.size ≤ q) s.heap H locs) {ls : Array Slot} (hl : lv_has ls 9 [(5, .int 0), (4, .ref od), (3, .ref ou), (2, .ref mo), (1, .ref x), (0, .ref b)]) : W p l e room_1 s m #[Value.ref b] below meth c H locs 27 298 (lw_Z below #[Value.ref b] s) (F0 m 380 ls []) := by
  obtain ⟨hx, hb, hr, hml, hown, hts0, hX, hbl, hlocks, hgv⟩ := id C0
  have hts : ∀ w ∈ pw_all, w.before #[Value.ref b] s = true := fun w h => hts0 w (pw_tbl h)
  have hA : ∀ q : Nat, s.heap.size ≤ q → (fun q : Nat => s.heap.size ≤ q) q := fun _ h => h
  have hbA : ¬ (fun q : Nat => s.heap.size ≤ q) b := Nat.not_le.mpr hbl
  refine lv_aload_n hx hb dL_law_380 rfl (lv_at hl 4 rfl) ?_
  refine lv_aload_n hx hb dL_law_381 rfl (lv_at hl 5 rfl) ?_
  refine lv_iload hx hb dL_law_382 (lv_at hl 0 rfl) ?_
  refine lv_iconst (v := 1) hx hb dL_law_384 (by decide) ?_
  refine lv_iadd hx hb dL_law_385 ?_
  refine lv_numI (v := 1) (by decide) ?_
  refine va_sld hx hb hX hbl hbA hS (by unfold vp_in; decide) dL_law_386 ?_
  refine lv_aload_n hx hb dL_law_387 rfl (lv_at hl 5 rfl) ?_
  refine lv_iload hx hb dL_law_388 (lv_at hl 0 rfl) ?_
  refine lv_iconst (v := 2) hx hb dL_law_390 (by decide) ?_
  refine lv_iadd hx hb dL_law_391 ?_
  refine lv_numI (v := 2) (by decide) ?_
  refine va_sld hx hb hX hbl hbA hS (by unfold vp_in; decide) dL_law_392 ?_
  refine lv_aload_n hx hb dL_law_393 rfl (lv_at hl 2 rfl) ?_
  have hPc := hP.sub (ws' := [(x, .inr (11, [.ref a1, .ref a2, .ref a3, .ref a4, .ref tt, .int 0, .ref rr, .ref cq])), (a1, .inr (4, [.int 0, .ref ed, .int 0]))]) [0, 1] rfl
  have hDc := hD.sub (ws' := [(x, .inr (11, [.ref a1, .ref a2, .ref a3, .ref a4, .ref tt, .int 0, .ref rr, .ref cq])), (a1, .inr (4, [.int 0, .ref ed, .int 0]))]) [0, 1] (by decide) rfl
  have hKc := hK.sub (tys' := []) [] rfl
  have hFc := va_free (wc := [(x, .inr (11, [.ref a1, .ref a2, .ref a3, .ref a4, .ref tt, .int 0, .ref rr, .ref cq])), (a1, .inr (4, [.int 0, .ref ed, .int 0]))]) hD hS hA [0, 1] rfl
  refine va_calli (vx_runSW (As := [.ref x, .int (xs (Int32.toNatClampNeg 1)), .int (xs (Int32.toNatClampNeg 2)), .ref ou]) (rest := []) ⟨hx, hb, hml, hown, hts⟩ (w_crack l hl9 dC dI H.size ed x a1 (.ref a2) (.ref a3) (.ref a4) (.ref tt) (.int 0) (.ref rr) (.ref cq) (.int 0) (.ref ed) (xs (Int32.toNatClampNeg 1)) (xs (Int32.toNatClampNeg 2)) ou) (vx_cwSW 4 hts (pw_S q552 q553 q42 q554) rfl rfl rfl (by decide +kernel) ⟨(Nat.le_of_ble_eq_true rfl), (Nat.le_of_ble_eq_true rfl)⟩) ⟨fun a U g mk q => by obtain ⟨q0, q1, qP, qK, qD, qZ⟩ := q; exact ⟨q0, q1, qP, va_K.moved (u := U) (U := U.calling g mk a) (Vm.Alike.refl U.vm) qK, qD, qZ.same rfl⟩, fun U hU hW => ⟨rfl, by rw [hU], by rw [hU]; exact hPc, va_K.moved hW.alike hKc, hDc.weaken (fun _ _ _ _ => trivial), hZ.call hS hFc hU hW⟩⟩ rfl rfl hl.1 rfl (lv_room (Nat.le_of_ble_eq_true rfl)) dL_law_394 ⟨(Nat.le_of_ble_eq_true rfl), (Nat.le_of_ble_eq_true rfl)⟩) hS (fun q _ h => hFc q h) hFc (fun r_494 u t H1 locs ht hvm hw hB hz1 hk1 hS => ?_)
  obtain ⟨hP1, hK1, hD1⟩ := hB
  rw [ht] at hP1
  have hK1 := va_K.moved hvm.symm hK1
  obtain ⟨hP, hD⟩ := va_join (wr := [(a2, .inr (4, [.int 0, .ref ed, .int 0])), (a3, .inr (4, [.int 0, .ref ed, .int 0])), (a4, .inr (4, [.int 0, .ref ed, .int 0])), (tt, .inl (cT, 24, .inl (fun _ => 0))), (rr, .inr (6, [.ref t1, .ref t2, .int 0, .int 0, .long 0, .long 0])), (mo, .inr (15, [.ref b1, .ref b2, .ref b3, .ref b4, .ref b5, .int 0])), (b1, .inr (4, [.int 0, .ref ed, .int 0])), (b2, .inr (4, [.int 0, .ref ed, .int 0])), (b3, .inr (4, [.int 0, .ref ed, .int 0])), (b4, .inr (4, [.int 0, .ref ed, .int 0])), (b5, .inr (4, [.int 0, .ref ed, .int 0])), (ou, .inl (cO, 1, .inr (.inl (fun _ => 0)))), (od, .inl (cD, 1, .inr (.inr (.inr (.inl (fun _ => 0))))))]) (w1 := [(x, .inr (11, [.ref a1, .ref a2, .ref a3, .ref a4, .ref tt, .int 0, .ref rr, .ref cq])), (a1, .inr (4, [.int 0, .ref ed, .int 0]))]) hP hD [0, 1] [2, 3, 4, 5, 6, 7, 8, 9, 10, 11, 12, 13, 14] rfl rfl (by decide) (by decide) hk1 hFc hP1 hD1
  have hK := (hK.sub (tys' := [(cT, .int), (cO, .long), (cD, .double)]) [0, 1, 2] rfl).app hK1
  generalize H1 = H at hP hS ⊢
  have hP : va_P (dC, dI) vwCl [(a2, .inr (4, [.int 0, .ref ed, .int 0])), (a3, .inr (4, [.int 0, .ref ed, .int 0])), (a4, .inr (4, [.int 0, .ref ed, .int 0])), (tt, .inl (cT, 24, .inl (fun _ => 0))), (rr, .inr (6, [.ref t1, .ref t2, .int 0, .int 0, .long 0, .long 0])), (mo, .inr (15, [.ref b1, .ref b2, .ref b3, .ref b4, .ref b5, .int 0])), (b1, .inr (4, [.int 0, .ref ed, .int 0])), (b2, .inr (4, [.int 0, .ref ed, .int 0])), (b3, .inr (4, [.int 0, .ref ed, .int 0])), (b4, .inr (4, [.int 0, .ref ed, .int 0])), (b5, .inr (4, [.int 0, .ref ed, .int 0])), (ou, .inl (cO, 1, .inr (.inl (fun _ => 0)))), (od, .inl (cD, 1, .inr (.inr (.inr (.inl (fun _ => 0)))))), (x, .inr (11, [.ref a1, .ref a2, .ref a3, .ref a4, .ref tt, .int 0, .ref rr, .ref cq])), (a1, .inr (4, [.int 0, .ref ed, .int 0]))] H := hP
  have hD : va_D (fun q : Nat => s.heap.size ≤ q) [(a2, .inr (4, [.int 0, .ref ed, .int 0])), (a3, .inr (4, [.int 0, .ref ed, .int 0])), (a4, .inr (4, [.int 0, .ref ed, .int 0])), (tt, .inl (cT, 24, .inl (fun _ => 0))), (rr, .inr (6, [.ref t1, .ref t2, .int 0, .int 0, .long 0, .long 0])), (mo, .inr (15, [.ref b1, .ref b2, .ref b3, .ref b4, .ref b5, .int 0])), (b1, .inr (4, [.int 0, .ref ed, .int 0])), (b2, .inr (4, [.int 0, .ref ed, .int 0])), (b3, .inr (4, [.int 0, .ref ed, .int 0])), (b4, .inr (4, [.int 0, .ref ed, .int 0])), (b5, .inr (4, [.int 0, .ref ed, .int 0])), (ou, .inl (cO, 1, .inr (.inl (fun _ => 0)))), (od, .inl (cD, 1, .inr (.inr (.inr (.inl (fun _ => 0)))))), (x, .inr (11, [.ref a1, .ref a2, .ref a3, .ref a4, .ref tt, .int 0, .ref rr, .ref cq])), (a1, .inr (4, [.int 0, .ref ed, .int 0]))] := hD
  have hK : va_K (dC, dI) vwCl [(cT, .int), (cO, .long), (cD, .double)] s := hK
  refine W.widen (k := 28) (n := 304) (Nat.le_of_ble_eq_true rfl) (Nat.le_of_ble_eq_true rfl) ?_
  have hw : r_494 = 1 := hw
  subst hw
  refine lv_istore (lv' := [(6, .int 1), (5, .int 0), (4, .ref od), (3, .ref ou), (2, .ref mo), (1, .ref x), (0, .ref b)]) hx hb dL_law_397 hl (by decide) rfl (fun ls hl => ?_)
  refine lv_aload_n hx hb dL_law_399 rfl (lv_at hl 4 rfl) ?_
  refine lv_aload_n hx hb dL_law_400 rfl (lv_at hl 6 rfl) ?_
  refine lv_iload hx hb dL_law_401 (lv_at hl 1 rfl) ?_
  refine lv_iconst (v := 1) hx hb dL_law_403 (by decide) ?_
  refine lv_iadd hx hb dL_law_404 ?_
  refine lv_numI (v := 1) (by decide) ?_
  refine va_sld hx hb hX hbl hbA hS (by unfold vp_in; decide) dL_law_405 ?_
  refine lv_aload_n hx hb dL_law_406 rfl (lv_at hl 6 rfl) ?_
  refine lv_iload hx hb dL_law_407 (lv_at hl 1 rfl) ?_
  refine lv_iconst (v := 2) hx hb dL_law_409 (by decide) ?_
  refine lv_iadd hx hb dL_law_410 ?_
  refine lv_numI (v := 2) (by decide) ?_
  refine va_sld hx hb hX hbl hbA hS (by unfold vp_in; decide) dL_law_411 ?_
  have hPc := hP.sub (ws' := [(mo, .inr (15, [.ref b1, .ref b2, .ref b3, .ref b4, .ref b5, .int 0])), (b1, .inr (4, [.int 0, .ref ed, .int 0]))]) [5, 6] rfl
  have hDc := hD.sub (ws' := [(mo, .inr (15, [.ref b1, .ref b2, .ref b3, .ref b4, .ref b5, .int 0])), (b1, .inr (4, [.int 0, .ref ed, .int 0]))]) [5, 6] (by decide) rfl
  have hKc := hK.sub (tys' := []) [] rfl
  have hFc := va_free (wc := [(mo, .inr (15, [.ref b1, .ref b2, .ref b3, .ref b4, .ref b5, .int 0])), (b1, .inr (4, [.int 0, .ref ed, .int 0]))]) hD hS hA [5, 6] rfl
  refine va_calli (va_runV (As := [.int (xs (Int32.toNatClampNeg 1)), .int (xs (Int32.toNatClampNeg 2))]) (rest := []) ⟨hx, hb, hml, hown, hts⟩ (y_crack l dC dI H.size mo b1 (.ref b2) (.ref b3) (.ref b4) (.ref b5) (.int 0) (.ref ed) 0 (xs (Int32.toNatClampNeg 1)) (xs (Int32.toNatClampNeg 2))) (cwV 2 hts (pw_V q1303 q1304 q1305 q49 q1306) rfl rfl rfl (by decide +kernel) ⟨(Nat.le_of_ble_eq_true rfl), (Nat.le_of_ble_eq_true rfl)⟩) ⟨fun a U g mk q => by obtain ⟨q0, q1, qP, qK, qD⟩ := q; exact ⟨q0, q1, qP, va_K.moved (u := U) (U := U.calling g mk a) (Vm.Alike.refl U.vm) qK, qD⟩, va_recv hKc hPc (ci := 15) (q0 := 0) rfl rfl, fun U hU hW => ⟨rfl, by rw [hU], by rw [hU]; exact hPc, va_K.moved hW.alike hKc, hDc.weaken (fun _ _ _ _ => trivial)⟩⟩ rfl rfl hl.1 rfl (lv_room (Nat.le_of_ble_eq_true rfl)) dL_law_412 ⟨(Nat.le_of_ble_eq_true rfl), (Nat.le_of_ble_eq_true rfl)⟩) hS (fun q _ h => hFc q h) hFc (fun r_495 u t H1 locs ht hvm hw hB hz1 hk1 hS => ?_)
  obtain ⟨hP1, hK1, hD1⟩ := hB
  rw [ht] at hP1
  have hK1 := va_K.moved hvm.symm hK1
  obtain ⟨hP, hD⟩ := va_join (wr := [(a2, .inr (4, [.int 0, .ref ed, .int 0])), (a3, .inr (4, [.int 0, .ref ed, .int 0])), (a4, .inr (4, [.int 0, .ref ed, .int 0])), (tt, .inl (cT, 24, .inl (fun _ => 0))), (rr, .inr (6, [.ref t1, .ref t2, .int 0, .int 0, .long 0, .long 0])), (b2, .inr (4, [.int 0, .ref ed, .int 0])), (b3, .inr (4, [.int 0, .ref ed, .int 0])), (b4, .inr (4, [.int 0, .ref ed, .int 0])), (b5, .inr (4, [.int 0, .ref ed, .int 0])), (ou, .inl (cO, 1, .inr (.inl (fun _ => 0)))), (od, .inl (cD, 1, .inr (.inr (.inr (.inl (fun _ => 0)))))), (x, .inr (11, [.ref a1, .ref a2, .ref a3, .ref a4, .ref tt, .int 0, .ref rr, .ref cq])), (a1, .inr (4, [.int 0, .ref ed, .int 0]))]) (w1 := [(mo, .inr (15, [.ref b1, .ref b2, .ref b3, .ref b4, .ref b5, .int 1])), (b1, .inr (4, [.int 0, .ref ed, .int 0]))]) hP hD [5, 6] [0, 1, 2, 3, 4, 7, 8, 9, 10, 11, 12, 13, 14] rfl rfl (by decide) (by decide) hk1 hFc hP1 hD1
  have hK := (hK.sub (tys' := [(cT, .int), (cO, .long), (cD, .double)]) [0, 1, 2] rfl).app hK1
  generalize H1 = H at hP hS ⊢
  have hP : va_P (dC, dI) vwCl [(a2, .inr (4, [.int 0, .ref ed, .int 0])), (a3, .inr (4, [.int 0, .ref ed, .int 0])), (a4, .inr (4, [.int 0, .ref ed, .int 0])), (tt, .inl (cT, 24, .inl (fun _ => 0))), (rr, .inr (6, [.ref t1, .ref t2, .int 0, .int 0, .long 0, .long 0])), (b2, .inr (4, [.int 0, .ref ed, .int 0])), (b3, .inr (4, [.int 0, .ref ed, .int 0])), (b4, .inr (4, [.int 0, .ref ed, .int 0])), (b5, .inr (4, [.int 0, .ref ed, .int 0])), (ou, .inl (cO, 1, .inr (.inl (fun _ => 0)))), (od, .inl (cD, 1, .inr (.inr (.inr (.inl (fun _ => 0)))))), (x, .inr (11, [.ref a1, .ref a2, .ref a3, .ref a4, .ref tt, .int 0, .ref rr, .ref cq])), (a1, .inr (4, [.int 0, .ref ed, .int 0])), (mo, .inr (15, [.ref b1, .ref b2, .ref b3, .ref b4, .ref b5, .int 1])), (b1, .inr (4, [.int 0, .ref ed, .int 0]))] H := hP
  have hD : va_D (fun q : Nat => s.heap.size ≤ q) [(a2, .inr (4, [.int 0, .ref ed, .int 0])), (a3, .inr (4, [.int 0, .ref ed, .int 0])), (a4, .inr (4, [.int 0, .ref ed, .int 0])), (tt, .inl (cT, 24, .inl (fun _ => 0))), (rr, .inr (6, [.ref t1, .ref t2, .int 0, .int 0, .long 0, .long 0])), (b2, .inr (4, [.int 0, .ref ed, .int 0])), (b3, .inr (4, [.int 0, .ref ed, .int 0])), (b4, .inr (4, [.int 0, .ref ed, .int 0])), (b5, .inr (4, [.int 0, .ref ed, .int 0])), (ou, .inl (cO, 1, .inr (.inl (fun _ => 0)))), (od, .inl (cD, 1, .inr (.inr (.inr (.inl (fun _ => 0)))))), (x, .inr (11, [.ref a1, .ref a2, .ref a3, .ref a4, .ref tt, .int 0, .ref rr, .ref cq])), (a1, .inr (4, [.int 0, .ref ed, .int 0])), (mo, .inr (15, [.ref b1, .ref b2, .ref b3, .ref b4, .ref b5, .int 1])), (b1, .inr (4, [.int 0, .ref ed, .int 0]))] := hD
  have hK : va_K (dC, dI) vwCl [(cT, .int), (cO, .long), (cD, .double)] s := hK
  refine W.widen (k := 28) (n := 304) (Nat.le_of_ble_eq_true rfl) (Nat.le_of_ble_eq_true rfl) ?_
  have hw : r_495 = 0 := hw
  subst hw
  refine lv_istore (lv' := [(7, .int 0), (6, .int 1), (5, .int 0), (4, .ref od), (3, .ref ou), (2, .ref mo), (1, .ref x), (0, .ref b)]) hx hb dL_law_415 hl (by decide) rfl (fun ls hl => ?_)
  refine lv_aload_n hx hb dL_law_417 rfl (lv_at hl 5 rfl) ?_
  have hPc := hP.sub (ws' := [(mo, .inr (15, [.ref b1, .ref b2, .ref b3, .ref b4, .ref b5, .int 1]))]) [13] rfl
  have hDc := hD.sub (ws' := [(mo, .inr (15, [.ref b1, .ref b2, .ref b3, .ref b4, .ref b5, .int 1]))]) [13] (by decide) rfl
  have hKc := hK.sub (tys' := []) [] rfl
  have hFc := va_free (wc := [(mo, .inr (15, [.ref b1, .ref b2, .ref b3, .ref b4, .ref b5, .int 1]))]) hD hS hA [13] rfl
  refine va_calli (va_runV (As := []) (rest := []) ⟨hx, hb, hml, hown, hts⟩ (n_thrown l dC dI H.size mo (.ref b1) (.ref b2) (.ref b3) (.ref b4) (.ref b5) 1) (cwV 0 hts (pw_V q1244 q1245 q1246 q49 q1247) rfl rfl rfl (by decide +kernel) ⟨(Nat.le_of_ble_eq_true rfl), (Nat.le_of_ble_eq_true rfl)⟩) ⟨fun a U g mk q => by obtain ⟨q0, q1, qP, qK, qD⟩ := q; exact ⟨q0, q1, qP, va_K.moved (u := U) (U := U.calling g mk a) (Vm.Alike.refl U.vm) qK, qD⟩, va_recv hKc hPc (ci := 15) (q0 := 0) rfl rfl, fun U hU hW => ⟨rfl, by rw [hU], by rw [hU]; exact hPc, va_K.moved hW.alike hKc, hDc.weaken (fun _ _ _ _ => trivial)⟩⟩ rfl rfl hl.1 rfl (lv_room (Nat.le_of_ble_eq_true rfl)) dL_law_418 ⟨(Nat.le_of_ble_eq_true rfl), (Nat.le_of_ble_eq_true rfl)⟩) hS (fun q _ h => hFc q h) hFc (fun r_496 u t H1 locs ht hvm hw hB hz1 hk1 hS => ?_)
  obtain ⟨hP1, hK1, hD1⟩ := hB
  rw [ht] at hP1
  have hK1 := va_K.moved hvm.symm hK1
  obtain ⟨hP, hD⟩ := va_join (wr := [(a2, .inr (4, [.int 0, .ref ed, .int 0])), (a3, .inr (4, [.int 0, .ref ed, .int 0])), (a4, .inr (4, [.int 0, .ref ed, .int 0])), (tt, .inl (cT, 24, .inl (fun _ => 0))), (rr, .inr (6, [.ref t1, .ref t2, .int 0, .int 0, .long 0, .long 0])), (b2, .inr (4, [.int 0, .ref ed, .int 0])), (b3, .inr (4, [.int 0, .ref ed, .int 0])), (b4, .inr (4, [.int 0, .ref ed, .int 0])), (b5, .inr (4, [.int 0, .ref ed, .int 0])), (ou, .inl (cO, 1, .inr (.inl (fun _ => 0)))), (od, .inl (cD, 1, .inr (.inr (.inr (.inl (fun _ => 0)))))), (x, .inr (11, [.ref a1, .ref a2, .ref a3, .ref a4, .ref tt, .int 0, .ref rr, .ref cq])), (a1, .inr (4, [.int 0, .ref ed, .int 0])), (b1, .inr (4, [.int 0, .ref ed, .int 0]))]) (w1 := [(mo, .inr (15, [.ref b1, .ref b2, .ref b3, .ref b4, .ref b5, .int 1]))]) hP hD [13] [0, 1, 2, 3, 4, 5, 6, 7, 8, 9, 10, 11, 12, 14] rfl rfl (by decide) (by decide) hk1 hFc hP1 hD1
  have hK := (hK.sub (tys' := [(cT, .int), (cO, .long), (cD, .double)]) [0, 1, 2] rfl).app hK1
  generalize H1 = H at hP hS ⊢
  have hP : va_P (dC, dI) vwCl [(a2, .inr (4, [.int 0, .ref ed, .int 0])), (a3, .inr (4, [.int 0, .ref ed, .int 0])), (a4, .inr (4, [.int 0, .ref ed, .int 0])), (tt, .inl (cT, 24, .inl (fun _ => 0))), (rr, .inr (6, [.ref t1, .ref t2, .int 0, .int 0, .long 0, .long 0])), (b2, .inr (4, [.int 0, .ref ed, .int 0])), (b3, .inr (4, [.int 0, .ref ed, .int 0])), (b4, .inr (4, [.int 0, .ref ed, .int 0])), (b5, .inr (4, [.int 0, .ref ed, .int 0])), (ou, .inl (cO, 1, .inr (.inl (fun _ => 0)))), (od, .inl (cD, 1, .inr (.inr (.inr (.inl (fun _ => 0)))))), (x, .inr (11, [.ref a1, .ref a2, .ref a3, .ref a4, .ref tt, .int 0, .ref rr, .ref cq])), (a1, .inr (4, [.int 0, .ref ed, .int 0])), (b1, .inr (4, [.int 0, .ref ed, .int 0])), (mo, .inr (15, [.ref b1, .ref b2, .ref b3, .ref b4, .ref b5, .int 1]))] H := hP
  have hD : va_D (fun q : Nat => s.heap.size ≤ q) [(a2, .inr (4, [.int 0, .ref ed, .int 0])), (a3, .inr (4, [.int 0, .ref ed, .int 0])), (a4, .inr (4, [.int 0, .ref ed, .int 0])), (tt, .inl (cT, 24, .inl (fun _ => 0))), (rr, .inr (6, [.ref t1, .ref t2, .int 0, .int 0, .long 0, .long 0])), (b2, .inr (4, [.int 0, .ref ed, .int 0])), (b3, .inr (4, [.int 0, .ref ed, .int 0])), (b4, .inr (4, [.int 0, .ref ed, .int 0])), (b5, .inr (4, [.int 0, .ref ed, .int 0])), (ou, .inl (cO, 1, .inr (.inl (fun _ => 0)))), (od, .inl (cD, 1, .inr (.inr (.inr (.inl (fun _ => 0)))))), (x, .inr (11, [.ref a1, .ref a2, .ref a3, .ref a4, .ref tt, .int 0, .ref rr, .ref cq])), (a1, .inr (4, [.int 0, .ref ed, .int 0])), (b1, .inr (4, [.int 0, .ref ed, .int 0])), (mo, .inr (15, [.ref b1, .ref b2, .ref b3, .ref b4, .ref b5, .int 1]))] := hD
  have hK : va_K (dC, dI) vwCl [(cT, .int), (cO, .long), (cD, .double)] s := hK
  refine W.widen (k := 28) (n := 304) (Nat.le_of_ble_eq_true rfl) (Nat.le_of_ble_eq_true rfl) ?_
  have hw : r_496 = 1 := hw
  subst hw
  refine lv_iload hx hb dL_law_421 (lv_at hl 1 rfl) ?_
  refine lv_icmp_eq (tgt := 428) hx hb dL_law_423 (by decide) (fun c_497 => ?_) (fun c_497 => absurd (by decide) c_497)
  refine lv_iload hx hb dL_law_428 (lv_at hl 1 rfl) ?_
  refine lv_if_ne (tgt := 445) hx hb dL_law_430 (by decide) (fun c_498 => ?_) (fun c_498 => absurd c_498 (by decide))
  refine lv_goto (tgt := 3072) hx hb dL_law_445 (by decide) ?_
  refine W.widen (k := 100) (n := 1000) (Nat.le_of_ble_eq_true rfl) (Nat.le_of_ble_eq_true rfl) ?_
  exact law_tail l C0 hS (lv_sub hl [2, 7] rfl)
set_option maxHeartbeats 4000000 in
set_option maxRecDepth 100000 in
theorem law_case_3 {p : Program} {e : Env} {s : State} {m : MethodId} {below : List Frame} {meth : Method} {c : Code} (l : Launch) (hl9 : l.stackTraces = false) (dC : Nat → ClassId) (dI : Nat → Nat → Nat) (ed : Nat) {b : Nat} {xs : Nat → Int32} (C0 : lw_At p s m meth c b 5 xs) (hZ : pz ed (fun q : Nat => s.heap.size ≤ q) s s.heap) (x a1 a2 a3 a4 tt rr cq t1 t2 mo b1 b2 b3 b4 b5 ou od : Nat) (cT cO cD : ClassId) {H : Heap} {locs : List Loc} (hK : va_K (dC, dI) vwCl [(cT, .int), (cO, .long), (cD, .double)] s) (hP : va_P (dC, dI) vwCl [(x, .inr (11, [.ref a1, .ref a2, .ref a3, .ref a4, .ref tt, .int 0, .ref rr, .ref cq])), (a1, .inr (4, [.int 0, .ref ed, .int 0])), (a2, .inr (4, [.int 0, .ref ed, .int 0])), (a3, .inr (4, [.int 0, .ref ed, .int 0])), (a4, .inr (4, [.int 0, .ref ed, .int 0])), (tt, .inl (cT, 24, .inl (fun _ => 0))), (rr, .inr (6, [.ref t1, .ref t2, .int 0, .int 0, .long 0, .long 0])), (mo, .inr (15, [.ref b1, .ref b2, .ref b3, .ref b4, .ref b5, .int 0])), (b1, .inr (4, [.int 0, .ref ed, .int 0])), (b2, .inr (4, [.int 0, .ref ed, .int 0])), (b3, .inr (4, [.int 0, .ref ed, .int 0])), (b4, .inr (4, [.int 0, .ref ed, .int 0])), (b5, .inr (4, [.int 0, .ref ed, .int 0])), (ou, .inl (cO, 1, .inr (.inl (fun _ => 0)))), (od, .inl (cD, 1, .inr (.inr (.inr (.inl (fun _ => 0))))))] H) (hD : va_D (fun q : Nat => s.heap.size ≤ q) [(x, .inr (11, [.ref a1, .ref a2, .ref a3, .ref a4, .ref tt, .int 0, .ref rr, .ref cq])), (a1, .inr (4, [.int 0, .ref ed, .int 0])), (a2, .inr (4, [.int 0, .ref ed, .int 0])), (a3, .inr (4, [.int 0, .ref ed, .int 0])), (a4, .inr (4, [.int 0, .ref ed, .int 0])), (tt, .inl (cT, 24, .inl (fun _ => 0))), (rr, .inr (6, [.ref t1, .ref t2, .int 0, .int 0, .long 0, .long 0])), (mo, .inr (15, [.ref b1, .ref b2, .ref b3, .ref b4, .ref b5, .int 0])), (b1, .inr (4, [.int 0, .ref ed, .int 0])), (b2, .inr (4, [.int 0, .ref ed, .int 0])), (b3, .inr (4, [.int 0, .ref ed, .int 0])), (b4, .inr (4, [.int 0, .ref ed, .int 0])), (b5, .inr (4, [.int 0, .ref ed, .int 0])), (ou, .inl (cO, 1, .inr (.inl (fun _ => 0)))), (od, .inl (cD, 1, .inr (.inr (.inr (.inl (fun _ => 0))))))]) (hS : va_S (fun q : Nat => s.heap.size ≤ q) s.heap H locs) {ls : Array Slot} (hl : lv_has ls 9 [(5, .int 0), (4, .ref od), (3, .ref ou), (2, .ref mo), (1, .ref x), (0, .ref b)]) : W p l e room_1 s m #[Value.ref b] below meth c H locs 27 298 (lw_Z below #[Value.ref b] s) (F0 m 448 ls []) := by
  obtain ⟨hx, hb, hr, hml, hown, hts0, hX, hbl, hlocks, hgv⟩ := id C0
  have hts : ∀ w ∈ pw_all, w.before #[Value.ref b] s = true := fun w h => hts0 w (pw_tbl h)
  have hA : ∀ q : Nat, s.heap.size ≤ q → (fun q : Nat => s.heap.size ≤ q) q := fun _ h => h
  have hbA : ¬ (fun q : Nat => s.heap.size ≤ q) b := Nat.not_le.mpr hbl
  refine lv_aload_n hx hb dL_law_448 rfl (lv_at hl 4 rfl) ?_
  refine lv_aload_n hx hb dL_law_449 rfl (lv_at hl 5 rfl) ?_
  refine lv_iload hx hb dL_law_450 (lv_at hl 0 rfl) ?_
  refine lv_iconst (v := 1) hx hb dL_law_452 (by decide) ?_
  refine lv_iadd hx hb dL_law_453 ?_
  refine lv_numI (v := 1) (by decide) ?_
  refine va_sld hx hb hX hbl hbA hS (by unfold vp_in; decide) dL_law_454 ?_
  refine lv_aload_n hx hb dL_law_455 rfl (lv_at hl 5 rfl) ?_
  refine lv_iload hx hb dL_law_456 (lv_at hl 0 rfl) ?_
  refine lv_iconst (v := 2) hx hb dL_law_458 (by decide) ?_
  refine lv_iadd hx hb dL_law_459 ?_
  refine lv_numI (v := 2) (by decide) ?_
  refine va_sld hx hb hX hbl hbA hS (by unfold vp_in; decide) dL_law_460 ?_
  refine lv_aload_n hx hb dL_law_461 rfl (lv_at hl 2 rfl) ?_
  have hPc := hP.sub (ws' := [(x, .inr (11, [.ref a1, .ref a2, .ref a3, .ref a4, .ref tt, .int 0, .ref rr, .ref cq])), (a1, .inr (4, [.int 0, .ref ed, .int 0]))]) [0, 1] rfl
  have hDc := hD.sub (ws' := [(x, .inr (11, [.ref a1, .ref a2, .ref a3, .ref a4, .ref tt, .int 0, .ref rr, .ref cq])), (a1, .inr (4, [.int 0, .ref ed, .int 0]))]) [0, 1] (by decide) rfl
  have hKc := hK.sub (tys' := []) [] rfl
  have hFc := va_free (wc := [(x, .inr (11, [.ref a1, .ref a2, .ref a3, .ref a4, .ref tt, .int 0, .ref rr, .ref cq])), (a1, .inr (4, [.int 0, .ref ed, .int 0]))]) hD hS hA [0, 1] rfl
  refine va_calli (vx_runSW (As := [.ref x, .int (xs (Int32.toNatClampNeg 1)), .int (xs (Int32.toNatClampNeg 2)), .ref ou]) (rest := []) ⟨hx, hb, hml, hown, hts⟩ (w_getSpring l hl9 dC dI H.size ed x a1 (.ref a2) (.ref a3) (.ref a4) (.ref tt) (.int 0) (.ref rr) (.ref cq) (.int 0) (.ref ed) (xs (Int32.toNatClampNeg 1)) (xs (Int32.toNatClampNeg 2)) ou) (vx_cwSW 4 hts (pw_S q568 q569 q42 q570) rfl rfl rfl (by decide +kernel) ⟨(Nat.le_of_ble_eq_true rfl), (Nat.le_of_ble_eq_true rfl)⟩) ⟨fun a U g mk q => by obtain ⟨q0, q1, qP, qK, qD, qZ⟩ := q; exact ⟨q0, q1, qP, va_K.moved (u := U) (U := U.calling g mk a) (Vm.Alike.refl U.vm) qK, qD, qZ.same rfl⟩, fun U hU hW => ⟨rfl, by rw [hU], by rw [hU]; exact hPc, va_K.moved hW.alike hKc, hDc.weaken (fun _ _ _ _ => trivial), hZ.call hS hFc hU hW⟩⟩ rfl rfl hl.1 rfl (lv_room (Nat.le_of_ble_eq_true rfl)) dL_law_462 ⟨(Nat.le_of_ble_eq_true rfl), (Nat.le_of_ble_eq_true rfl)⟩) hS (fun q _ h => hFc q h) hFc (fun r_499 u t H1 locs ht hvm hw hB hz1 hk1 hS => ?_)
  obtain ⟨hP1, hK1, hD1⟩ := hB
  rw [ht] at hP1
  have hK1 := va_K.moved hvm.symm hK1
  obtain ⟨hP, hD⟩ := va_join (wr := [(a2, .inr (4, [.int 0, .ref ed, .int 0])), (a3, .inr (4, [.int 0, .ref ed, .int 0])), (a4, .inr (4, [.int 0, .ref ed, .int 0])), (tt, .inl (cT, 24, .inl (fun _ => 0))), (rr, .inr (6, [.ref t1, .ref t2, .int 0, .int 0, .long 0, .long 0])), (mo, .inr (15, [.ref b1, .ref b2, .ref b3, .ref b4, .ref b5, .int 0])), (b1, .inr (4, [.int 0, .ref ed, .int 0])), (b2, .inr (4, [.int 0, .ref ed, .int 0])), (b3, .inr (4, [.int 0, .ref ed, .int 0])), (b4, .inr (4, [.int 0, .ref ed, .int 0])), (b5, .inr (4, [.int 0, .ref ed, .int 0])), (ou, .inl (cO, 1, .inr (.inl (fun _ => 0)))), (od, .inl (cD, 1, .inr (.inr (.inr (.inl (fun _ => 0))))))]) (w1 := [(x, .inr (11, [.ref a1, .ref a2, .ref a3, .ref a4, .ref tt, .int 0, .ref rr, .ref cq])), (a1, .inr (4, [.int 0, .ref ed, .int 0]))]) hP hD [0, 1] [2, 3, 4, 5, 6, 7, 8, 9, 10, 11, 12, 13, 14] rfl rfl (by decide) (by decide) hk1 hFc hP1 hD1
  have hK := (hK.sub (tys' := [(cT, .int), (cO, .long), (cD, .double)]) [0, 1, 2] rfl).app hK1
  generalize H1 = H at hP hS ⊢
  have hP : va_P (dC, dI) vwCl [(a2, .inr (4, [.int 0, .ref ed, .int 0])), (a3, .inr (4, [.int 0, .ref ed, .int 0])), (a4, .inr (4, [.int 0, .ref ed, .int 0])), (tt, .inl (cT, 24, .inl (fun _ => 0))), (rr, .inr (6, [.ref t1, .ref t2, .int 0, .int 0, .long 0, .long 0])), (mo, .inr (15, [.ref b1, .ref b2, .ref b3, .ref b4, .ref b5, .int 0])), (b1, .inr (4, [.int 0, .ref ed, .int 0])), (b2, .inr (4, [.int 0, .ref ed, .int 0])), (b3, .inr (4, [.int 0, .ref ed, .int 0])), (b4, .inr (4, [.int 0, .ref ed, .int 0])), (b5, .inr (4, [.int 0, .ref ed, .int 0])), (ou, .inl (cO, 1, .inr (.inl (fun _ => 0)))), (od, .inl (cD, 1, .inr (.inr (.inr (.inl (fun _ => 0)))))), (x, .inr (11, [.ref a1, .ref a2, .ref a3, .ref a4, .ref tt, .int 0, .ref rr, .ref cq])), (a1, .inr (4, [.int 0, .ref ed, .int 0]))] H := hP
  have hD : va_D (fun q : Nat => s.heap.size ≤ q) [(a2, .inr (4, [.int 0, .ref ed, .int 0])), (a3, .inr (4, [.int 0, .ref ed, .int 0])), (a4, .inr (4, [.int 0, .ref ed, .int 0])), (tt, .inl (cT, 24, .inl (fun _ => 0))), (rr, .inr (6, [.ref t1, .ref t2, .int 0, .int 0, .long 0, .long 0])), (mo, .inr (15, [.ref b1, .ref b2, .ref b3, .ref b4, .ref b5, .int 0])), (b1, .inr (4, [.int 0, .ref ed, .int 0])), (b2, .inr (4, [.int 0, .ref ed, .int 0])), (b3, .inr (4, [.int 0, .ref ed, .int 0])), (b4, .inr (4, [.int 0, .ref ed, .int 0])), (b5, .inr (4, [.int 0, .ref ed, .int 0])), (ou, .inl (cO, 1, .inr (.inl (fun _ => 0)))), (od, .inl (cD, 1, .inr (.inr (.inr (.inl (fun _ => 0)))))), (x, .inr (11, [.ref a1, .ref a2, .ref a3, .ref a4, .ref tt, .int 0, .ref rr, .ref cq])), (a1, .inr (4, [.int 0, .ref ed, .int 0]))] := hD
  have hK : va_K (dC, dI) vwCl [(cT, .int), (cO, .long), (cD, .double)] s := hK
  refine W.widen (k := 28) (n := 304) (Nat.le_of_ble_eq_true rfl) (Nat.le_of_ble_eq_true rfl) ?_
  have hw : r_499 = 1 := hw
  subst hw
  refine lv_istore (lv' := [(6, .int 1), (5, .int 0), (4, .ref od), (3, .ref ou), (2, .ref mo), (1, .ref x), (0, .ref b)]) hx hb dL_law_465 hl (by decide) rfl (fun ls hl => ?_)
  refine lv_aload_n hx hb dL_law_467 rfl (lv_at hl 4 rfl) ?_
  refine lv_aload_n hx hb dL_law_468 rfl (lv_at hl 6 rfl) ?_
  refine lv_iload hx hb dL_law_469 (lv_at hl 1 rfl) ?_
  refine lv_iconst (v := 1) hx hb dL_law_471 (by decide) ?_
  refine lv_iadd hx hb dL_law_472 ?_
  refine lv_numI (v := 1) (by decide) ?_
  refine va_sld hx hb hX hbl hbA hS (by unfold vp_in; decide) dL_law_473 ?_
  refine lv_aload_n hx hb dL_law_474 rfl (lv_at hl 6 rfl) ?_
  refine lv_iload hx hb dL_law_475 (lv_at hl 1 rfl) ?_
  refine lv_iconst (v := 2) hx hb dL_law_477 (by decide) ?_
  refine lv_iadd hx hb dL_law_478 ?_
  refine lv_numI (v := 2) (by decide) ?_
  refine va_sld hx hb hX hbl hbA hS (by unfold vp_in; decide) dL_law_479 ?_
  have hPc := hP.sub (ws' := [(mo, .inr (15, [.ref b1, .ref b2, .ref b3, .ref b4, .ref b5, .int 0])), (b1, .inr (4, [.int 0, .ref ed, .int 0]))]) [5, 6] rfl
  have hDc := hD.sub (ws' := [(mo, .inr (15, [.ref b1, .ref b2, .ref b3, .ref b4, .ref b5, .int 0])), (b1, .inr (4, [.int 0, .ref ed, .int 0]))]) [5, 6] (by decide) rfl
  have hKc := hK.sub (tys' := []) [] rfl
  have hFc := va_free (wc := [(mo, .inr (15, [.ref b1, .ref b2, .ref b3, .ref b4, .ref b5, .int 0])), (b1, .inr (4, [.int 0, .ref ed, .int 0]))]) hD hS hA [5, 6] rfl
  refine va_calli (va_runV (As := [.int (xs (Int32.toNatClampNeg 1)), .int (xs (Int32.toNatClampNeg 2))]) (rest := []) ⟨hx, hb, hml, hown, hts⟩ (y_getSpring l dC dI H.size mo b1 (.ref b2) (.ref b3) (.ref b4) (.ref b5) (.int 0) (.ref ed) 0 (xs (Int32.toNatClampNeg 1)) (xs (Int32.toNatClampNeg 2))) (cwV 2 hts (pw_V q1317 q1318 q1319 q49 q1320) rfl rfl rfl (by decide +kernel) ⟨(Nat.le_of_ble_eq_true rfl), (Nat.le_of_ble_eq_true rfl)⟩) ⟨fun a U g mk q => by obtain ⟨q0, q1, qP, qK, qD⟩ := q; exact ⟨q0, q1, qP, va_K.moved (u := U) (U := U.calling g mk a) (Vm.Alike.refl U.vm) qK, qD⟩, va_recv hKc hPc (ci := 15) (q0 := 0) rfl rfl, fun U hU hW => ⟨rfl, by rw [hU], by rw [hU]; exact hPc, va_K.moved hW.alike hKc, hDc.weaken (fun _ _ _ _ => trivial)⟩⟩ rfl rfl hl.1 rfl (lv_room (Nat.le_of_ble_eq_true rfl)) dL_law_480 ⟨(Nat.le_of_ble_eq_true rfl), (Nat.le_of_ble_eq_true rfl)⟩) hS (fun q _ h => hFc q h) hFc (fun r_500 u t H1 locs ht hvm hw hB hz1 hk1 hS => ?_)
  obtain ⟨hP1, hK1, hD1⟩ := hB
  rw [ht] at hP1
  have hK1 := va_K.moved hvm.symm hK1
  obtain ⟨hP, hD⟩ := va_join (wr := [(a2, .inr (4, [.int 0, .ref ed, .int 0])), (a3, .inr (4, [.int 0, .ref ed, .int 0])), (a4, .inr (4, [.int 0, .ref ed, .int 0])), (tt, .inl (cT, 24, .inl (fun _ => 0))), (rr, .inr (6, [.ref t1, .ref t2, .int 0, .int 0, .long 0, .long 0])), (b2, .inr (4, [.int 0, .ref ed, .int 0])), (b3, .inr (4, [.int 0, .ref ed, .int 0])), (b4, .inr (4, [.int 0, .ref ed, .int 0])), (b5, .inr (4, [.int 0, .ref ed, .int 0])), (ou, .inl (cO, 1, .inr (.inl (fun _ => 0)))), (od, .inl (cD, 1, .inr (.inr (.inr (.inl (fun _ => 0)))))), (x, .inr (11, [.ref a1, .ref a2, .ref a3, .ref a4, .ref tt, .int 0, .ref rr, .ref cq])), (a1, .inr (4, [.int 0, .ref ed, .int 0]))]) (w1 := [(mo, .inr (15, [.ref b1, .ref b2, .ref b3, .ref b4, .ref b5, .int 1])), (b1, .inr (4, [.int 0, .ref ed, .int 0]))]) hP hD [5, 6] [0, 1, 2, 3, 4, 7, 8, 9, 10, 11, 12, 13, 14] rfl rfl (by decide) (by decide) hk1 hFc hP1 hD1
  have hK := (hK.sub (tys' := [(cT, .int), (cO, .long), (cD, .double)]) [0, 1, 2] rfl).app hK1
  generalize H1 = H at hP hS ⊢
  have hP : va_P (dC, dI) vwCl [(a2, .inr (4, [.int 0, .ref ed, .int 0])), (a3, .inr (4, [.int 0, .ref ed, .int 0])), (a4, .inr (4, [.int 0, .ref ed, .int 0])), (tt, .inl (cT, 24, .inl (fun _ => 0))), (rr, .inr (6, [.ref t1, .ref t2, .int 0, .int 0, .long 0, .long 0])), (b2, .inr (4, [.int 0, .ref ed, .int 0])), (b3, .inr (4, [.int 0, .ref ed, .int 0])), (b4, .inr (4, [.int 0, .ref ed, .int 0])), (b5, .inr (4, [.int 0, .ref ed, .int 0])), (ou, .inl (cO, 1, .inr (.inl (fun _ => 0)))), (od, .inl (cD, 1, .inr (.inr (.inr (.inl (fun _ => 0)))))), (x, .inr (11, [.ref a1, .ref a2, .ref a3, .ref a4, .ref tt, .int 0, .ref rr, .ref cq])), (a1, .inr (4, [.int 0, .ref ed, .int 0])), (mo, .inr (15, [.ref b1, .ref b2, .ref b3, .ref b4, .ref b5, .int 1])), (b1, .inr (4, [.int 0, .ref ed, .int 0]))] H := hP
  have hD : va_D (fun q : Nat => s.heap.size ≤ q) [(a2, .inr (4, [.int 0, .ref ed, .int 0])), (a3, .inr (4, [.int 0, .ref ed, .int 0])), (a4, .inr (4, [.int 0, .ref ed, .int 0])), (tt, .inl (cT, 24, .inl (fun _ => 0))), (rr, .inr (6, [.ref t1, .ref t2, .int 0, .int 0, .long 0, .long 0])), (b2, .inr (4, [.int 0, .ref ed, .int 0])), (b3, .inr (4, [.int 0, .ref ed, .int 0])), (b4, .inr (4, [.int 0, .ref ed, .int 0])), (b5, .inr (4, [.int 0, .ref ed, .int 0])), (ou, .inl (cO, 1, .inr (.inl (fun _ => 0)))), (od, .inl (cD, 1, .inr (.inr (.inr (.inl (fun _ => 0)))))), (x, .inr (11, [.ref a1, .ref a2, .ref a3, .ref a4, .ref tt, .int 0, .ref rr, .ref cq])), (a1, .inr (4, [.int 0, .ref ed, .int 0])), (mo, .inr (15, [.ref b1, .ref b2, .ref b3, .ref b4, .ref b5, .int 1])), (b1, .inr (4, [.int 0, .ref ed, .int 0]))] := hD
  have hK : va_K (dC, dI) vwCl [(cT, .int), (cO, .long), (cD, .double)] s := hK
  refine W.widen (k := 28) (n := 304) (Nat.le_of_ble_eq_true rfl) (Nat.le_of_ble_eq_true rfl) ?_
  have hw : r_500 = 0 := hw
  subst hw
  refine lv_istore (lv' := [(7, .int 0), (6, .int 1), (5, .int 0), (4, .ref od), (3, .ref ou), (2, .ref mo), (1, .ref x), (0, .ref b)]) hx hb dL_law_483 hl (by decide) rfl (fun ls hl => ?_)
  refine lv_aload_n hx hb dL_law_485 rfl (lv_at hl 5 rfl) ?_
  have hPc := hP.sub (ws' := [(mo, .inr (15, [.ref b1, .ref b2, .ref b3, .ref b4, .ref b5, .int 1]))]) [13] rfl
  have hDc := hD.sub (ws' := [(mo, .inr (15, [.ref b1, .ref b2, .ref b3, .ref b4, .ref b5, .int 1]))]) [13] (by decide) rfl
  have hKc := hK.sub (tys' := []) [] rfl
  have hFc := va_free (wc := [(mo, .inr (15, [.ref b1, .ref b2, .ref b3, .ref b4, .ref b5, .int 1]))]) hD hS hA [13] rfl
  refine va_calli (va_runV (As := []) (rest := []) ⟨hx, hb, hml, hown, hts⟩ (n_thrown l dC dI H.size mo (.ref b1) (.ref b2) (.ref b3) (.ref b4) (.ref b5) 1) (cwV 0 hts (pw_V q1244 q1245 q1246 q49 q1247) rfl rfl rfl (by decide +kernel) ⟨(Nat.le_of_ble_eq_true rfl), (Nat.le_of_ble_eq_true rfl)⟩) ⟨fun a U g mk q => by obtain ⟨q0, q1, qP, qK, qD⟩ := q; exact ⟨q0, q1, qP, va_K.moved (u := U) (U := U.calling g mk a) (Vm.Alike.refl U.vm) qK, qD⟩, va_recv hKc hPc (ci := 15) (q0 := 0) rfl rfl, fun U hU hW => ⟨rfl, by rw [hU], by rw [hU]; exact hPc, va_K.moved hW.alike hKc, hDc.weaken (fun _ _ _ _ => trivial)⟩⟩ rfl rfl hl.1 rfl (lv_room (Nat.le_of_ble_eq_true rfl)) dL_law_486 ⟨(Nat.le_of_ble_eq_true rfl), (Nat.le_of_ble_eq_true rfl)⟩) hS (fun q _ h => hFc q h) hFc (fun r_501 u t H1 locs ht hvm hw hB hz1 hk1 hS => ?_)
  obtain ⟨hP1, hK1, hD1⟩ := hB
  rw [ht] at hP1
  have hK1 := va_K.moved hvm.symm hK1
  obtain ⟨hP, hD⟩ := va_join (wr := [(a2, .inr (4, [.int 0, .ref ed, .int 0])), (a3, .inr (4, [.int 0, .ref ed, .int 0])), (a4, .inr (4, [.int 0, .ref ed, .int 0])), (tt, .inl (cT, 24, .inl (fun _ => 0))), (rr, .inr (6, [.ref t1, .ref t2, .int 0, .int 0, .long 0, .long 0])), (b2, .inr (4, [.int 0, .ref ed, .int 0])), (b3, .inr (4, [.int 0, .ref ed, .int 0])), (b4, .inr (4, [.int 0, .ref ed, .int 0])), (b5, .inr (4, [.int 0, .ref ed, .int 0])), (ou, .inl (cO, 1, .inr (.inl (fun _ => 0)))), (od, .inl (cD, 1, .inr (.inr (.inr (.inl (fun _ => 0)))))), (x, .inr (11, [.ref a1, .ref a2, .ref a3, .ref a4, .ref tt, .int 0, .ref rr, .ref cq])), (a1, .inr (4, [.int 0, .ref ed, .int 0])), (b1, .inr (4, [.int 0, .ref ed, .int 0]))]) (w1 := [(mo, .inr (15, [.ref b1, .ref b2, .ref b3, .ref b4, .ref b5, .int 1]))]) hP hD [13] [0, 1, 2, 3, 4, 5, 6, 7, 8, 9, 10, 11, 12, 14] rfl rfl (by decide) (by decide) hk1 hFc hP1 hD1
  have hK := (hK.sub (tys' := [(cT, .int), (cO, .long), (cD, .double)]) [0, 1, 2] rfl).app hK1
  generalize H1 = H at hP hS ⊢
  have hP : va_P (dC, dI) vwCl [(a2, .inr (4, [.int 0, .ref ed, .int 0])), (a3, .inr (4, [.int 0, .ref ed, .int 0])), (a4, .inr (4, [.int 0, .ref ed, .int 0])), (tt, .inl (cT, 24, .inl (fun _ => 0))), (rr, .inr (6, [.ref t1, .ref t2, .int 0, .int 0, .long 0, .long 0])), (b2, .inr (4, [.int 0, .ref ed, .int 0])), (b3, .inr (4, [.int 0, .ref ed, .int 0])), (b4, .inr (4, [.int 0, .ref ed, .int 0])), (b5, .inr (4, [.int 0, .ref ed, .int 0])), (ou, .inl (cO, 1, .inr (.inl (fun _ => 0)))), (od, .inl (cD, 1, .inr (.inr (.inr (.inl (fun _ => 0)))))), (x, .inr (11, [.ref a1, .ref a2, .ref a3, .ref a4, .ref tt, .int 0, .ref rr, .ref cq])), (a1, .inr (4, [.int 0, .ref ed, .int 0])), (b1, .inr (4, [.int 0, .ref ed, .int 0])), (mo, .inr (15, [.ref b1, .ref b2, .ref b3, .ref b4, .ref b5, .int 1]))] H := hP
  have hD : va_D (fun q : Nat => s.heap.size ≤ q) [(a2, .inr (4, [.int 0, .ref ed, .int 0])), (a3, .inr (4, [.int 0, .ref ed, .int 0])), (a4, .inr (4, [.int 0, .ref ed, .int 0])), (tt, .inl (cT, 24, .inl (fun _ => 0))), (rr, .inr (6, [.ref t1, .ref t2, .int 0, .int 0, .long 0, .long 0])), (b2, .inr (4, [.int 0, .ref ed, .int 0])), (b3, .inr (4, [.int 0, .ref ed, .int 0])), (b4, .inr (4, [.int 0, .ref ed, .int 0])), (b5, .inr (4, [.int 0, .ref ed, .int 0])), (ou, .inl (cO, 1, .inr (.inl (fun _ => 0)))), (od, .inl (cD, 1, .inr (.inr (.inr (.inl (fun _ => 0)))))), (x, .inr (11, [.ref a1, .ref a2, .ref a3, .ref a4, .ref tt, .int 0, .ref rr, .ref cq])), (a1, .inr (4, [.int 0, .ref ed, .int 0])), (b1, .inr (4, [.int 0, .ref ed, .int 0])), (mo, .inr (15, [.ref b1, .ref b2, .ref b3, .ref b4, .ref b5, .int 1]))] := hD
  have hK : va_K (dC, dI) vwCl [(cT, .int), (cO, .long), (cD, .double)] s := hK
  refine W.widen (k := 28) (n := 304) (Nat.le_of_ble_eq_true rfl) (Nat.le_of_ble_eq_true rfl) ?_
  have hw : r_501 = 1 := hw
  subst hw
  refine lv_iload hx hb dL_law_489 (lv_at hl 1 rfl) ?_
  refine lv_icmp_eq (tgt := 496) hx hb dL_law_491 (by decide) (fun c_502 => ?_) (fun c_502 => absurd (by decide) c_502)
  refine lv_iload hx hb dL_law_496 (lv_at hl 1 rfl) ?_
  refine lv_if_ne (tgt := 513) hx hb dL_law_498 (by decide) (fun c_503 => ?_) (fun c_503 => absurd c_503 (by decide))
  refine lv_goto (tgt := 3072) hx hb dL_law_513 (by decide) ?_
  refine W.widen (k := 100) (n := 1000) (Nat.le_of_ble_eq_true rfl) (Nat.le_of_ble_eq_true rfl) ?_
  exact law_tail l C0 hS (lv_sub hl [2, 7] rfl)
set_option maxHeartbeats 4000000 in
set_option maxRecDepth 100000 in
theorem law_case_4 {p : Program} {e : Env} {s : State} {m : MethodId} {below : List Frame} {meth : Method} {c : Code} (l : Launch) (hl9 : l.stackTraces = false) (dC : Nat → ClassId) (dI : Nat → Nat → Nat) (ed : Nat) {b : Nat} {xs : Nat → Int32} (C0 : lw_At p s m meth c b 5 xs) (hZ : pz ed (fun q : Nat => s.heap.size ≤ q) s s.heap) (x a1 a2 a3 a4 tt rr cq t1 t2 mo b1 b2 b3 b4 b5 ou od : Nat) (cT cO cD : ClassId) {H : Heap} {locs : List Loc} (hK : va_K (dC, dI) vwCl [(cT, .int), (cO, .long), (cD, .double)] s) (hP : va_P (dC, dI) vwCl [(x, .inr (11, [.ref a1, .ref a2, .ref a3, .ref a4, .ref tt, .int 0, .ref rr, .ref cq])), (a1, .inr (4, [.int 0, .ref ed, .int 0])), (a2, .inr (4, [.int 0, .ref ed, .int 0])), (a3, .inr (4, [.int 0, .ref ed, .int 0])), (a4, .inr (4, [.int 0, .ref ed, .int 0])), (tt, .inl (cT, 24, .inl (fun _ => 0))), (rr, .inr (6, [.ref t1, .ref t2, .int 0, .int 0, .long 0, .long 0])), (mo, .inr (15, [.ref b1, .ref b2, .ref b3, .ref b4, .ref b5, .int 0])), (b1, .inr (4, [.int 0, .ref ed, .int 0])), (b2, .inr (4, [.int 0, .ref ed, .int 0])), (b3, .inr (4, [.int 0, .ref ed, .int 0])), (b4, .inr (4, [.int 0, .ref ed, .int 0])), (b5, .inr (4, [.int 0, .ref ed, .int 0])), (ou, .inl (cO, 1, .inr (.inl (fun _ => 0)))), (od, .inl (cD, 1, .inr (.inr (.inr (.inl (fun _ => 0))))))] H) (hD : va_D (fun q : Nat => s.heap.size ≤ q) [(x, .inr (11, [.ref a1, .ref a2, .ref a3, .ref a4, .ref tt, .int 0, .ref rr, .ref cq])), (a1, .inr (4, [.int 0, .ref ed, .int 0])), (a2, .inr (4, [.int 0, .ref ed, .int 0])), (a3, .inr (4, [.int 0, .ref ed, .int 0])), (a4, .inr (4, [.int 0, .ref ed, .int 0])), (tt, .inl (cT, 24, .inl (fun _ => 0))), (rr, .inr (6, [.ref t1, .ref t2, .int 0, .int 0, .long 0, .long 0])), (mo, .inr (15, [.ref b1, .ref b2, .ref b3, .ref b4, .ref b5, .int 0])), (b1, .inr (4, [.int 0, .ref ed, .int 0])), (b2, .inr (4, [.int 0, .ref ed, .int 0])), (b3, .inr (4, [.int 0, .ref ed, .int 0])), (b4, .inr (4, [.int 0, .ref ed, .int 0])), (b5, .inr (4, [.int 0, .ref ed, .int 0])), (ou, .inl (cO, 1, .inr (.inl (fun _ => 0)))), (od, .inl (cD, 1, .inr (.inr (.inr (.inl (fun _ => 0))))))]) (hS : va_S (fun q : Nat => s.heap.size ≤ q) s.heap H locs) {ls : Array Slot} (hl : lv_has ls 9 [(5, .int 0), (4, .ref od), (3, .ref ou), (2, .ref mo), (1, .ref x), (0, .ref b)]) : W p l e room_1 s m #[Value.ref b] below meth c H locs 27 298 (lw_Z below #[Value.ref b] s) (F0 m 516 ls []) := by
  obtain ⟨hx, hb, hr, hml, hown, hts0, hX, hbl, hlocks, hgv⟩ := id C0
  have hts : ∀ w ∈ pw_all, w.before #[Value.ref b] s = true := fun w h => hts0 w (pw_tbl h)
  have hA : ∀ q : Nat, s.heap.size ≤ q → (fun q : Nat => s.heap.size ≤ q) q := fun _ h => h
  have hbA : ¬ (fun q : Nat => s.heap.size ≤ q) b := Nat.not_le.mpr hbl
  refine lv_aload_n hx hb dL_law_516 rfl (lv_at hl 4 rfl) ?_
  refine lv_aload_n hx hb dL_law_517 rfl (lv_at hl 5 rfl) ?_
  refine lv_iload hx hb dL_law_518 (lv_at hl 0 rfl) ?_
  refine lv_iconst (v := 1) hx hb dL_law_520 (by decide) ?_
  refine lv_iadd hx hb dL_law_521 ?_
  refine lv_numI (v := 1) (by decide) ?_
  refine va_sld hx hb hX hbl hbA hS (by unfold vp_in; decide) dL_law_522 ?_
  refine lv_aload_n hx hb dL_law_523 rfl (lv_at hl 5 rfl) ?_
  refine lv_iload hx hb dL_law_524 (lv_at hl 0 rfl) ?_
  refine lv_iconst (v := 2) hx hb dL_law_526 (by decide) ?_
  refine lv_iadd hx hb dL_law_527 ?_
  refine lv_numI (v := 2) (by decide) ?_
  refine va_sld hx hb hX hbl hbA hS (by unfold vp_in; decide) dL_law_528 ?_
  refine lv_aload_n hx hb dL_law_529 rfl (lv_at hl 5 rfl) ?_
  refine lv_iload hx hb dL_law_530 (lv_at hl 0 rfl) ?_
  refine lv_iconst (v := 3) hx hb dL_law_532 (by decide) ?_
  refine lv_iadd hx hb dL_law_533 ?_
  refine lv_numI (v := 3) (by decide) ?_
  refine va_sld hx hb hX hbl hbA hS (by unfold vp_in; decide) dL_law_534 ?_
  refine lv_aload_n hx hb dL_law_535 rfl (lv_at hl 2 rfl) ?_
  have hPc := hP.sub (ws' := [(x, .inr (11, [.ref a1, .ref a2, .ref a3, .ref a4, .ref tt, .int 0, .ref rr, .ref cq])), (a1, .inr (4, [.int 0, .ref ed, .int 0]))]) [0, 1] rfl
  have hDc := hD.sub (ws' := [(x, .inr (11, [.ref a1, .ref a2, .ref a3, .ref a4, .ref tt, .int 0, .ref rr, .ref cq])), (a1, .inr (4, [.int 0, .ref ed, .int 0]))]) [0, 1] (by decide) rfl
  have hKc := hK.sub (tys' := []) [] rfl
  have hFc := va_free (wc := [(x, .inr (11, [.ref a1, .ref a2, .ref a3, .ref a4, .ref tt, .int 0, .ref rr, .ref cq])), (a1, .inr (4, [.int 0, .ref ed, .int 0]))]) hD hS hA [0, 1] rfl
  refine va_calli (vx_runSW (As := [.ref x, .int (xs (Int32.toNatClampNeg 1)), .int (xs (Int32.toNatClampNeg 2)), .int (xs (Int32.toNatClampNeg 3)), .ref ou]) (rest := []) ⟨hx, hb, hml, hown, hts⟩ (w_getResponse l hl9 dC dI H.size ed x a1 (.ref a2) (.ref a3) (.ref a4) (.ref tt) (.int 0) (.ref rr) (.ref cq) (.int 0) (.ref ed) (xs (Int32.toNatClampNeg 1)) (xs (Int32.toNatClampNeg 2)) (xs (Int32.toNatClampNeg 3)) ou) (vx_cwSW 5 hts (pw_S q575 q576 q42 q577) rfl rfl rfl (by decide +kernel) ⟨(Nat.le_of_ble_eq_true rfl), (Nat.le_of_ble_eq_true rfl)⟩) ⟨fun a U g mk q => by obtain ⟨q0, q1, qP, qK, qD, qZ⟩ := q; exact ⟨q0, q1, qP, va_K.moved (u := U) (U := U.calling g mk a) (Vm.Alike.refl U.vm) qK, qD, qZ.same rfl⟩, fun U hU hW => ⟨rfl, by rw [hU], by rw [hU]; exact hPc, va_K.moved hW.alike hKc, hDc.weaken (fun _ _ _ _ => trivial), hZ.call hS hFc hU hW⟩⟩ rfl rfl hl.1 rfl (lv_room (Nat.le_of_ble_eq_true rfl)) dL_law_536 ⟨(Nat.le_of_ble_eq_true rfl), (Nat.le_of_ble_eq_true rfl)⟩) hS (fun q _ h => hFc q h) hFc (fun r_504 u t H1 locs ht hvm hw hB hz1 hk1 hS => ?_)
  obtain ⟨hP1, hK1, hD1⟩ := hB
  rw [ht] at hP1
  have hK1 := va_K.moved hvm.symm hK1
  obtain ⟨hP, hD⟩ := va_join (wr := [(a2, .inr (4, [.int 0, .ref ed, .int 0])), (a3, .inr (4, [.int 0, .ref ed, .int 0])), (a4, .inr (4, [.int 0, .ref ed, .int 0])), (tt, .inl (cT, 24, .inl (fun _ => 0))), (rr, .inr (6, [.ref t1, .ref t2, .int 0, .int 0, .long 0, .long 0])), (mo, .inr (15, [.ref b1, .ref b2, .ref b3, .ref b4, .ref b5, .int 0])), (b1, .inr (4, [.int 0, .ref ed, .int 0])), (b2, .inr (4, [.int 0, .ref ed, .int 0])), (b3, .inr (4, [.int 0, .ref ed, .int 0])), (b4, .inr (4, [.int 0, .ref ed, .int 0])), (b5, .inr (4, [.int 0, .ref ed, .int 0])), (ou, .inl (cO, 1, .inr (.inl (fun _ => 0)))), (od, .inl (cD, 1, .inr (.inr (.inr (.inl (fun _ => 0))))))]) (w1 := [(x, .inr (11, [.ref a1, .ref a2, .ref a3, .ref a4, .ref tt, .int 0, .ref rr, .ref cq])), (a1, .inr (4, [.int 0, .ref ed, .int 0]))]) hP hD [0, 1] [2, 3, 4, 5, 6, 7, 8, 9, 10, 11, 12, 13, 14] rfl rfl (by decide) (by decide) hk1 hFc hP1 hD1
  have hK := (hK.sub (tys' := [(cT, .int), (cO, .long), (cD, .double)]) [0, 1, 2] rfl).app hK1
  generalize H1 = H at hP hS ⊢
  have hP : va_P (dC, dI) vwCl [(a2, .inr (4, [.int 0, .ref ed, .int 0])), (a3, .inr (4, [.int 0, .ref ed, .int 0])), (a4, .inr (4, [.int 0, .ref ed, .int 0])), (tt, .inl (cT, 24, .inl (fun _ => 0))), (rr, .inr (6, [.ref t1, .ref t2, .int 0, .int 0, .long 0, .long 0])), (mo, .inr (15, [.ref b1, .ref b2, .ref b3, .ref b4, .ref b5, .int 0])), (b1, .inr (4, [.int 0, .ref ed, .int 0])), (b2, .inr (4, [.int 0, .ref ed, .int 0])), (b3, .inr (4, [.int 0, .ref ed, .int 0])), (b4, .inr (4, [.int 0, .ref ed, .int 0])), (b5, .inr (4, [.int 0, .ref ed, .int 0])), (ou, .inl (cO, 1, .inr (.inl (fun _ => 0)))), (od, .inl (cD, 1, .inr (.inr (.inr (.inl (fun _ => 0)))))), (x, .inr (11, [.ref a1, .ref a2, .ref a3, .ref a4, .ref tt, .int 0, .ref rr, .ref cq])), (a1, .inr (4, [.int 0, .ref ed, .int 0]))] H := hP
  have hD : va_D (fun q : Nat => s.heap.size ≤ q) [(a2, .inr (4, [.int 0, .ref ed, .int 0])), (a3, .inr (4, [.int 0, .ref ed, .int 0])), (a4, .inr (4, [.int 0, .ref ed, .int 0])), (tt, .inl (cT, 24, .inl (fun _ => 0))), (rr, .inr (6, [.ref t1, .ref t2, .int 0, .int 0, .long 0, .long 0])), (mo, .inr (15, [.ref b1, .ref b2, .ref b3, .ref b4, .ref b5, .int 0])), (b1, .inr (4, [.int 0, .ref ed, .int 0])), (b2, .inr (4, [.int 0, .ref ed, .int 0])), (b3, .inr (4, [.int 0, .ref ed, .int 0])), (b4, .inr (4, [.int 0, .ref ed, .int 0])), (b5, .inr (4, [.int 0, .ref ed, .int 0])), (ou, .inl (cO, 1, .inr (.inl (fun _ => 0)))), (od, .inl (cD, 1, .inr (.inr (.inr (.inl (fun _ => 0)))))), (x, .inr (11, [.ref a1, .ref a2, .ref a3, .ref a4, .ref tt, .int 0, .ref rr, .ref cq])), (a1, .inr (4, [.int 0, .ref ed, .int 0]))] := hD
  have hK : va_K (dC, dI) vwCl [(cT, .int), (cO, .long), (cD, .double)] s := hK
  refine W.widen (k := 28) (n := 304) (Nat.le_of_ble_eq_true rfl) (Nat.le_of_ble_eq_true rfl) ?_
  have hw : r_504 = 1 := hw
  subst hw
  refine lv_istore (lv' := [(6, .int 1), (5, .int 0), (4, .ref od), (3, .ref ou), (2, .ref mo), (1, .ref x), (0, .ref b)]) hx hb dL_law_539 hl (by decide) rfl (fun ls hl => ?_)
  refine lv_aload_n hx hb dL_law_541 rfl (lv_at hl 4 rfl) ?_
  refine lv_aload_n hx hb dL_law_542 rfl (lv_at hl 6 rfl) ?_
  refine lv_iload hx hb dL_law_543 (lv_at hl 1 rfl) ?_
  refine lv_iconst (v := 1) hx hb dL_law_545 (by decide) ?_
  refine lv_iadd hx hb dL_law_546 ?_
  refine lv_numI (v := 1) (by decide) ?_
  refine va_sld hx hb hX hbl hbA hS (by unfold vp_in; decide) dL_law_547 ?_
  refine lv_aload_n hx hb dL_law_548 rfl (lv_at hl 6 rfl) ?_
  refine lv_iload hx hb dL_law_549 (lv_at hl 1 rfl) ?_
  refine lv_iconst (v := 2) hx hb dL_law_551 (by decide) ?_
  refine lv_iadd hx hb dL_law_552 ?_
  refine lv_numI (v := 2) (by decide) ?_
  refine va_sld hx hb hX hbl hbA hS (by unfold vp_in; decide) dL_law_553 ?_
  refine lv_aload_n hx hb dL_law_554 rfl (lv_at hl 6 rfl) ?_
  refine lv_iload hx hb dL_law_555 (lv_at hl 1 rfl) ?_
  refine lv_iconst (v := 3) hx hb dL_law_557 (by decide) ?_
  refine lv_iadd hx hb dL_law_558 ?_
  refine lv_numI (v := 3) (by decide) ?_
  refine va_sld hx hb hX hbl hbA hS (by unfold vp_in; decide) dL_law_559 ?_
  have hPc := hP.sub (ws' := [(mo, .inr (15, [.ref b1, .ref b2, .ref b3, .ref b4, .ref b5, .int 0])), (b1, .inr (4, [.int 0, .ref ed, .int 0]))]) [5, 6] rfl
  have hDc := hD.sub (ws' := [(mo, .inr (15, [.ref b1, .ref b2, .ref b3, .ref b4, .ref b5, .int 0])), (b1, .inr (4, [.int 0, .ref ed, .int 0]))]) [5, 6] (by decide) rfl
  have hKc := hK.sub (tys' := []) [] rfl
  have hFc := va_free (wc := [(mo, .inr (15, [.ref b1, .ref b2, .ref b3, .ref b4, .ref b5, .int 0])), (b1, .inr (4, [.int 0, .ref ed, .int 0]))]) hD hS hA [5, 6] rfl
  refine va_calli (va_runV (As := [.int (xs (Int32.toNatClampNeg 1)), .int (xs (Int32.toNatClampNeg 2)), .int (xs (Int32.toNatClampNeg 3))]) (rest := []) ⟨hx, hb, hml, hown, hts⟩ (y_getResponse l dC dI H.size mo b1 (.ref b2) (.ref b3) (.ref b4) (.ref b5) (.int 0) (.ref ed) 0 (xs (Int32.toNatClampNeg 1)) (xs (Int32.toNatClampNeg 2)) (xs (Int32.toNatClampNeg 3))) (cwV 3 hts (pw_V q1327 q1328 q1329 q49 q1330) rfl rfl rfl (by decide +kernel) ⟨(Nat.le_of_ble_eq_true rfl), (Nat.le_of_ble_eq_true rfl)⟩) ⟨fun a U g mk q => by obtain ⟨q0, q1, qP, qK, qD⟩ := q; exact ⟨q0, q1, qP, va_K.moved (u := U) (U := U.calling g mk a) (Vm.Alike.refl U.vm) qK, qD⟩, va_recv hKc hPc (ci := 15) (q0 := 0) rfl rfl, fun U hU hW => ⟨rfl, by rw [hU], by rw [hU]; exact hPc, va_K.moved hW.alike hKc, hDc.weaken (fun _ _ _ _ => trivial)⟩⟩ rfl rfl hl.1 rfl (lv_room (Nat.le_of_ble_eq_true rfl)) dL_law_560 ⟨(Nat.le_of_ble_eq_true rfl), (Nat.le_of_ble_eq_true rfl)⟩) hS (fun q _ h => hFc q h) hFc (fun r_505 u t H1 locs ht hvm hw hB hz1 hk1 hS => ?_)
  obtain ⟨hP1, hK1, hD1⟩ := hB
  rw [ht] at hP1
  have hK1 := va_K.moved hvm.symm hK1
  obtain ⟨hP, hD⟩ := va_join (wr := [(a2, .inr (4, [.int 0, .ref ed, .int 0])), (a3, .inr (4, [.int 0, .ref ed, .int 0])), (a4, .inr (4, [.int 0, .ref ed, .int 0])), (tt, .inl (cT, 24, .inl (fun _ => 0))), (rr, .inr (6, [.ref t1, .ref t2, .int 0, .int 0, .long 0, .long 0])), (b2, .inr (4, [.int 0, .ref ed, .int 0])), (b3, .inr (4, [.int 0, .ref ed, .int 0])), (b4, .inr (4, [.int 0, .ref ed, .int 0])), (b5, .inr (4, [.int 0, .ref ed, .int 0])), (ou, .inl (cO, 1, .inr (.inl (fun _ => 0)))), (od, .inl (cD, 1, .inr (.inr (.inr (.inl (fun _ => 0)))))), (x, .inr (11, [.ref a1, .ref a2, .ref a3, .ref a4, .ref tt, .int 0, .ref rr, .ref cq])), (a1, .inr (4, [.int 0, .ref ed, .int 0]))]) (w1 := [(mo, .inr (15, [.ref b1, .ref b2, .ref b3, .ref b4, .ref b5, .int 1])), (b1, .inr (4, [.int 0, .ref ed, .int 0]))]) hP hD [5, 6] [0, 1, 2, 3, 4, 7, 8, 9, 10, 11, 12, 13, 14] rfl rfl (by decide) (by decide) hk1 hFc hP1 hD1
  have hK := (hK.sub (tys' := [(cT, .int), (cO, .long), (cD, .double)]) [0, 1, 2] rfl).app hK1
  generalize H1 = H at hP hS ⊢
  have hP : va_P (dC, dI) vwCl [(a2, .inr (4, [.int 0, .ref ed, .int 0])), (a3, .inr (4, [.int 0, .ref ed, .int 0])), (a4, .inr (4, [.int 0, .ref ed, .int 0])), (tt, .inl (cT, 24, .inl (fun _ => 0))), (rr, .inr (6, [.ref t1, .ref t2, .int 0, .int 0, .long 0, .long 0])), (b2, .inr (4, [.int 0, .ref ed, .int 0])), (b3, .inr (4, [.int 0, .ref ed, .int 0])), (b4, .inr (4, [.int 0, .ref ed, .int 0])), (b5, .inr (4, [.int 0, .ref ed, .int 0])), (ou, .inl (cO, 1, .inr (.inl (fun _ => 0)))), (od, .inl (cD, 1, .inr (.inr (.inr (.inl (fun _ => 0)))))), (x, .inr (11, [.ref a1, .ref a2, .ref a3, .ref a4, .ref tt, .int 0, .ref rr, .ref cq])), (a1, .inr (4, [.int 0, .ref ed, .int 0])), (mo, .inr (15, [.ref b1, .ref b2, .ref b3, .ref b4, .ref b5, .int 1])), (b1, .inr (4, [.int 0, .ref ed, .int 0]))] H := hP
  have hD : va_D (fun q : Nat => s.heap.size ≤ q) [(a2, .inr (4, [.int 0, .ref ed, .int 0])), (a3, .inr (4, [.int 0, .ref ed, .int 0])), (a4, .inr (4, [.int 0, .ref ed, .int 0])), (tt, .inl (cT, 24, .inl (fun _ => 0))), (rr, .inr (6, [.ref t1, .ref t2, .int 0, .int 0, .long 0, .long 0])), (b2, .inr (4, [.int 0, .ref ed, .int 0])), (b3, .inr (4, [.int 0, .ref ed, .int 0])), (b4, .inr (4, [.int 0, .ref ed, .int 0])), (b5, .inr (4, [.int 0, .ref ed, .int 0])), (ou, .inl (cO, 1, .inr (.inl (fun _ => 0)))), (od, .inl (cD, 1, .inr (.inr (.inr (.inl (fun _ => 0)))))), (x, .inr (11, [.ref a1, .ref a2, .ref a3, .ref a4, .ref tt, .int 0, .ref rr, .ref cq])), (a1, .inr (4, [.int 0, .ref ed, .int 0])), (mo, .inr (15, [.ref b1, .ref b2, .ref b3, .ref b4, .ref b5, .int 1])), (b1, .inr (4, [.int 0, .ref ed, .int 0]))] := hD
  have hK : va_K (dC, dI) vwCl [(cT, .int), (cO, .long), (cD, .double)] s := hK
  refine W.widen (k := 28) (n := 304) (Nat.le_of_ble_eq_true rfl) (Nat.le_of_ble_eq_true rfl) ?_
  have hw : r_505 = 0 := hw
  subst hw
  refine lv_istore (lv' := [(7, .int 0), (6, .int 1), (5, .int 0), (4, .ref od), (3, .ref ou), (2, .ref mo), (1, .ref x), (0, .ref b)]) hx hb dL_law_563 hl (by decide) rfl (fun ls hl => ?_)
  refine lv_aload_n hx hb dL_law_565 rfl (lv_at hl 5 rfl) ?_
  have hPc := hP.sub (ws' := [(mo, .inr (15, [.ref b1, .ref b2, .ref b3, .ref b4, .ref b5, .int 1]))]) [13] rfl
  have hDc := hD.sub (ws' := [(mo, .inr (15, [.ref b1, .ref b2, .ref b3, .ref b4, .ref b5, .int 1]))]) [13] (by decide) rfl
  have hKc := hK.sub (tys' := []) [] rfl
  have hFc := va_free (wc := [(mo, .inr (15, [.ref b1, .ref b2, .ref b3, .ref b4, .ref b5, .int 1]))]) hD hS hA [13] rfl
  refine va_calli (va_runV (As := []) (rest := []) ⟨hx, hb, hml, hown, hts⟩ (n_thrown l dC dI H.size mo (.ref b1) (.ref b2) (.ref b3) (.ref b4) (.ref b5) 1) (cwV 0 hts (pw_V q1244 q1245 q1246 q49 q1247) rfl rfl rfl (by decide +kernel) ⟨(Nat.le_of_ble_eq_true rfl), (Nat.le_of_ble_eq_true rfl)⟩) ⟨fun a U g mk q => by obtain ⟨q0, q1, qP, qK, qD⟩ := q; exact ⟨q0, q1, qP, va_K.moved (u := U) (U := U.calling g mk a) (Vm.Alike.refl U.vm) qK, qD⟩, va_recv hKc hPc (ci := 15) (q0 := 0) rfl rfl, fun U hU hW => ⟨rfl, by rw [hU], by rw [hU]; exact hPc, va_K.moved hW.alike hKc, hDc.weaken (fun _ _ _ _ => trivial)⟩⟩ rfl rfl hl.1 rfl (lv_room (Nat.le_of_ble_eq_true rfl)) dL_law_566 ⟨(Nat.le_of_ble_eq_true rfl), (Nat.le_of_ble_eq_true rfl)⟩) hS (fun q _ h => hFc q h) hFc (fun r_506 u t H1 locs ht hvm hw hB hz1 hk1 hS => ?_)
  obtain ⟨hP1, hK1, hD1⟩ := hB
  rw [ht] at hP1
  have hK1 := va_K.moved hvm.symm hK1
  obtain ⟨hP, hD⟩ := va_join (wr := [(a2, .inr (4, [.int 0, .ref ed, .int 0])), (a3, .inr (4, [.int 0, .ref ed, .int 0])), (a4, .inr (4, [.int 0, .ref ed, .int 0])), (tt, .inl (cT, 24, .inl (fun _ => 0))), (rr, .inr (6, [.ref t1, .ref t2, .int 0, .int 0, .long 0, .long 0])), (b2, .inr (4, [.int 0, .ref ed, .int 0])), (b3, .inr (4, [.int 0, .ref ed, .int 0])), (b4, .inr (4, [.int 0, .ref ed, .int 0])), (b5, .inr (4, [.int 0, .ref ed, .int 0])), (ou, .inl (cO, 1, .inr (.inl (fun _ => 0)))), (od, .inl (cD, 1, .inr (.inr (.inr (.inl (fun _ => 0)))))), (x, .inr (11, [.ref a1, .ref a2, .ref a3, .ref a4, .ref tt, .int 0, .ref rr, .ref cq])), (a1, .inr (4, [.int 0, .ref ed, .int 0])), (b1, .inr (4, [.int 0, .ref ed, .int 0]))]) (w1 := [(mo, .inr (15, [.ref b1, .ref b2, .ref b3, .ref b4, .ref b5, .int 1]))]) hP hD [13] [0, 1, 2, 3, 4, 5, 6, 7, 8, 9, 10, 11, 12, 14] rfl rfl (by decide) (by decide) hk1 hFc hP1 hD1
  have hK := (hK.sub (tys' := [(cT, .int), (cO, .long), (cD, .double)]) [0, 1, 2] rfl).app hK1
  generalize H1 = H at hP hS ⊢
  have hP : va_P (dC, dI) vwCl [(a2, .inr (4, [.int 0, .ref ed, .int 0])), (a3, .inr (4, [.int 0, .ref ed, .int 0])), (a4, .inr (4, [.int 0, .ref ed, .int 0])), (tt, .inl (cT, 24, .inl (fun _ => 0))), (rr, .inr (6, [.ref t1, .ref t2, .int 0, .int 0, .long 0, .long 0])), (b2, .inr (4, [.int 0, .ref ed, .int 0])), (b3, .inr (4, [.int 0, .ref ed, .int 0])), (b4, .inr (4, [.int 0, .ref ed, .int 0])), (b5, .inr (4, [.int 0, .ref ed, .int 0])), (ou, .inl (cO, 1, .inr (.inl (fun _ => 0)))), (od, .inl (cD, 1, .inr (.inr (.inr (.inl (fun _ => 0)))))), (x, .inr (11, [.ref a1, .ref a2, .ref a3, .ref a4, .ref tt, .int 0, .ref rr, .ref cq])), (a1, .inr (4, [.int 0, .ref ed, .int 0])), (b1, .inr (4, [.int 0, .ref ed, .int 0])), (mo, .inr (15, [.ref b1, .ref b2, .ref b3, .ref b4, .ref b5, .int 1]))] H := hP
  have hD : va_D (fun q : Nat => s.heap.size ≤ q) [(a2, .inr (4, [.int 0, .ref ed, .int 0])), (a3, .inr (4, [.int 0, .ref ed, .int 0])), (a4, .inr (4, [.int 0, .ref ed, .int 0])), (tt, .inl (cT, 24, .inl (fun _ => 0))), (rr, .inr (6, [.ref t1, .ref t2, .int 0, .int 0, .long 0, .long 0])), (b2, .inr (4, [.int 0, .ref ed, .int 0])), (b3, .inr (4, [.int 0, .ref ed, .int 0])), (b4, .inr (4, [.int 0, .ref ed, .int 0])), (b5, .inr (4, [.int 0, .ref ed, .int 0])), (ou, .inl (cO, 1, .inr (.inl (fun _ => 0)))), (od, .inl (cD, 1, .inr (.inr (.inr (.inl (fun _ => 0)))))), (x, .inr (11, [.ref a1, .ref a2, .ref a3, .ref a4, .ref tt, .int 0, .ref rr, .ref cq])), (a1, .inr (4, [.int 0, .ref ed, .int 0])), (b1, .inr (4, [.int 0, .ref ed, .int 0])), (mo, .inr (15, [.ref b1, .ref b2, .ref b3, .ref b4, .ref b5, .int 1]))] := hD
  have hK : va_K (dC, dI) vwCl [(cT, .int), (cO, .long), (cD, .double)] s := hK
  refine W.widen (k := 28) (n := 304) (Nat.le_of_ble_eq_true rfl) (Nat.le_of_ble_eq_true rfl) ?_
  have hw : r_506 = 1 := hw
  subst hw
  refine lv_iload hx hb dL_law_569 (lv_at hl 1 rfl) ?_
  refine lv_icmp_eq (tgt := 576) hx hb dL_law_571 (by decide) (fun c_507 => ?_) (fun c_507 => absurd (by decide) c_507)
  refine lv_iload hx hb dL_law_576 (lv_at hl 1 rfl) ?_
  refine lv_if_ne (tgt := 593) hx hb dL_law_578 (by decide) (fun c_508 => ?_) (fun c_508 => absurd c_508 (by decide))
  refine lv_goto (tgt := 3072) hx hb dL_law_593 (by decide) ?_
  refine W.widen (k := 100) (n := 1000) (Nat.le_of_ble_eq_true rfl) (Nat.le_of_ble_eq_true rfl) ?_
  exact law_tail l C0 hS (lv_sub hl [2, 7] rfl)
set_option maxHeartbeats 4000000 in
set_option maxRecDepth 100000 in
theorem law_case_5 {p : Program} {e : Env} {s : State} {m : MethodId} {below : List Frame} {meth : Method} {c : Code} (l : Launch) (hl9 : l.stackTraces = false) (dC : Nat → ClassId) (dI : Nat → Nat → Nat) (ed : Nat) {b : Nat} {xs : Nat → Int32} (C0 : lw_At p s m meth c b 5 xs) (hZ : pz ed (fun q : Nat => s.heap.size ≤ q) s s.heap) (x a1 a2 a3 a4 tt rr cq t1 t2 mo b1 b2 b3 b4 b5 ou od : Nat) (cT cO cD : ClassId) {H : Heap} {locs : List Loc} (hK : va_K (dC, dI) vwCl [(cT, .int), (cO, .long), (cD, .double)] s) (hP : va_P (dC, dI) vwCl [(x, .inr (11, [.ref a1, .ref a2, .ref a3, .ref a4, .ref tt, .int 0, .ref rr, .ref cq])), (a1, .inr (4, [.int 0, .ref ed, .int 0])), (a2, .inr (4, [.int 0, .ref ed, .int 0])), (a3, .inr (4, [.int 0, .ref ed, .int 0])), (a4, .inr (4, [.int 0, .ref ed, .int 0])), (tt, .inl (cT, 24, .inl (fun _ => 0))), (rr, .inr (6, [.ref t1, .ref t2, .int 0, .int 0, .long 0, .long 0])), (mo, .inr (15, [.ref b1, .ref b2, .ref b3, .ref b4, .ref b5, .int 0])), (b1, .inr (4, [.int 0, .ref ed, .int 0])), (b2, .inr (4, [.int 0, .ref ed, .int 0])), (b3, .inr (4, [.int 0, .ref ed, .int 0])), (b4, .inr (4, [.int 0, .ref ed, .int 0])), (b5, .inr (4, [.int 0, .ref ed, .int 0])), (ou, .inl (cO, 1, .inr (.inl (fun _ => 0)))), (od, .inl (cD, 1, .inr (.inr (.inr (.inl (fun _ => 0))))))] H) (hD : va_D (fun q : Nat => s.heap.size ≤ q) [(x, .inr (11, [.ref a1, .ref a2, .ref a3, .ref a4, .ref tt, .int 0, .ref rr, .ref cq])), (a1, .inr (4, [.int 0, .ref ed, .int 0])), (a2, .inr (4, [.int 0, .ref ed, .int 0])), (a3, .inr (4, [.int 0, .ref ed, .int 0])), (a4, .inr (4, [.int 0, .ref ed, .int 0])), (tt, .inl (cT, 24, .inl (fun _ => 0))), (rr, .inr (6, [.ref t1, .ref t2, .int 0, .int 0, .long 0, .long 0])), (mo, .inr (15, [.ref b1, .ref b2, .ref b3, .ref b4, .ref b5, .int 0])), (b1, .inr (4, [.int 0, .ref ed, .int 0])), (b2, .inr (4, [.int 0, .ref ed, .int 0])), (b3, .inr (4, [.int 0, .ref ed, .int 0])), (b4, .inr (4, [.int 0, .ref ed, .int 0])), (b5, .inr (4, [.int 0, .ref ed, .int 0])), (ou, .inl (cO, 1, .inr (.inl (fun _ => 0)))), (od, .inl (cD, 1, .inr (.inr (.inr (.inl (fun _ => 0))))))]) (hS : va_S (fun q : Nat => s.heap.size ≤ q) s.heap H locs) {ls : Array Slot} (hl : lv_has ls 9 [(5, .int 0), (4, .ref od), (3, .ref ou), (2, .ref mo), (1, .ref x), (0, .ref b)]) : W p l e room_1 s m #[Value.ref b] below meth c H locs 27 298 (lw_Z below #[Value.ref b] s) (F0 m 596 ls []) := by
  obtain ⟨hx, hb, hr, hml, hown, hts0, hX, hbl, hlocks, hgv⟩ := id C0
  have hts : ∀ w ∈ pw_all, w.before #[Value.ref b] s = true := fun w h => hts0 w (pw_tbl h)
  have hA : ∀ q : Nat, s.heap.size ≤ q → (fun q : Nat => s.heap.size ≤ q) q := fun _ h => h
  have hbA : ¬ (fun q : Nat => s.heap.size ≤ q) b := Nat.not_le.mpr hbl
  refine lv_aload_n hx hb dL_law_596 rfl (lv_at hl 4 rfl) ?_
  refine lv_aload_n hx hb dL_law_597 rfl (lv_at hl 5 rfl) ?_
  refine lv_iload hx hb dL_law_598 (lv_at hl 0 rfl) ?_
  refine lv_iconst (v := 1) hx hb dL_law_600 (by decide) ?_
  refine lv_iadd hx hb dL_law_601 ?_
  refine lv_numI (v := 1) (by decide) ?_
  refine va_sld hx hb hX hbl hbA hS (by unfold vp_in; decide) dL_law_602 ?_
  refine lv_aload_n hx hb dL_law_603 rfl (lv_at hl 2 rfl) ?_
  have hPc := hP.sub (ws' := [(x, .inr (11, [.ref a1, .ref a2, .ref a3, .ref a4, .ref tt, .int 0, .ref rr, .ref cq])), (a1, .inr (4, [.int 0, .ref ed, .int 0]))]) [0, 1] rfl
  have hDc := hD.sub (ws' := [(x, .inr (11, [.ref a1, .ref a2, .ref a3, .ref a4, .ref tt, .int 0, .ref rr, .ref cq])), (a1, .inr (4, [.int 0, .ref ed, .int 0]))]) [0, 1] (by decide) rfl
  have hKc := hK.sub (tys' := []) [] rfl
  have hFc := va_free (wc := [(x, .inr (11, [.ref a1, .ref a2, .ref a3, .ref a4, .ref tt, .int 0, .ref rr, .ref cq])), (a1, .inr (4, [.int 0, .ref ed, .int 0]))]) hD hS hA [0, 1] rfl
  refine va_calli (vx_runSW (As := [.ref x, .int (xs (Int32.toNatClampNeg 1)), .ref ou]) (rest := []) ⟨hx, hb, hml, hown, hts⟩ (w_getResonance l hl9 dC dI H.size ed x a1 (.ref a2) (.ref a3) (.ref a4) (.ref tt) (.int 0) (.ref rr) (.ref cq) (.int 0) (.ref ed) (xs (Int32.toNatClampNeg 1)) ou) (vx_cwSW 3 hts (pw_S q615 q616 q42 q617) rfl rfl rfl (by decide +kernel) ⟨(Nat.le_of_ble_eq_true rfl), (Nat.le_of_ble_eq_true rfl)⟩) ⟨fun a U g mk q => by obtain ⟨q0, q1, qP, qK, qD, qZ⟩ := q; exact ⟨q0, q1, qP, va_K.moved (u := U) (U := U.calling g mk a) (Vm.Alike.refl U.vm) qK, qD, qZ.same rfl⟩, fun U hU hW => ⟨rfl, by rw [hU], by rw [hU]; exact hPc, va_K.moved hW.alike hKc, hDc.weaken (fun _ _ _ _ => trivial), hZ.call hS hFc hU hW⟩⟩ rfl rfl hl.1 rfl (lv_room (Nat.le_of_ble_eq_true rfl)) dL_law_604 ⟨(Nat.le_of_ble_eq_true rfl), (Nat.le_of_ble_eq_true rfl)⟩) hS (fun q _ h => hFc q h) hFc (fun r_509 u t H1 locs ht hvm hw hB hz1 hk1 hS => ?_)
  obtain ⟨hP1, hK1, hD1⟩ := hB
  rw [ht] at hP1
  have hK1 := va_K.moved hvm.symm hK1
  obtain ⟨hP, hD⟩ := va_join (wr := [(a2, .inr (4, [.int 0, .ref ed, .int 0])), (a3, .inr (4, [.int 0, .ref ed, .int 0])), (a4, .inr (4, [.int 0, .ref ed, .int 0])), (tt, .inl (cT, 24, .inl (fun _ => 0))), (rr, .inr (6, [.ref t1, .ref t2, .int 0, .int 0, .long 0, .long 0])), (mo, .inr (15, [.ref b1, .ref b2, .ref b3, .ref b4, .ref b5, .int 0])), (b1, .inr (4, [.int 0, .ref ed, .int 0])), (b2, .inr (4, [.int 0, .ref ed, .int 0])), (b3, .inr (4, [.int 0, .ref ed, .int 0])), (b4, .inr (4, [.int 0, .ref ed, .int 0])), (b5, .inr (4, [.int 0, .ref ed, .int 0])), (ou, .inl (cO, 1, .inr (.inl (fun _ => 0)))), (od, .inl (cD, 1, .inr (.inr (.inr (.inl (fun _ => 0))))))]) (w1 := [(x, .inr (11, [.ref a1, .ref a2, .ref a3, .ref a4, .ref tt, .int 0, .ref rr, .ref cq])), (a1, .inr (4, [.int 0, .ref ed, .int 0]))]) hP hD [0, 1] [2, 3, 4, 5, 6, 7, 8, 9, 10, 11, 12, 13, 14] rfl rfl (by decide) (by decide) hk1 hFc hP1 hD1
  have hK := (hK.sub (tys' := [(cT, .int), (cO, .long), (cD, .double)]) [0, 1, 2] rfl).app hK1
  generalize H1 = H at hP hS ⊢
  have hP : va_P (dC, dI) vwCl [(a2, .inr (4, [.int 0, .ref ed, .int 0])), (a3, .inr (4, [.int 0, .ref ed, .int 0])), (a4, .inr (4, [.int 0, .ref ed, .int 0])), (tt, .inl (cT, 24, .inl (fun _ => 0))), (rr, .inr (6, [.ref t1, .ref t2, .int 0, .int 0, .long 0, .long 0])), (mo, .inr (15, [.ref b1, .ref b2, .ref b3, .ref b4, .ref b5, .int 0])), (b1, .inr (4, [.int 0, .ref ed, .int 0])), (b2, .inr (4, [.int 0, .ref ed, .int 0])), (b3, .inr (4, [.int 0, .ref ed, .int 0])), (b4, .inr (4, [.int 0, .ref ed, .int 0])), (b5, .inr (4, [.int 0, .ref ed, .int 0])), (ou, .inl (cO, 1, .inr (.inl (fun _ => 0)))), (od, .inl (cD, 1, .inr (.inr (.inr (.inl (fun _ => 0)))))), (x, .inr (11, [.ref a1, .ref a2, .ref a3, .ref a4, .ref tt, .int 0, .ref rr, .ref cq])), (a1, .inr (4, [.int 0, .ref ed, .int 0]))] H := hP
  have hD : va_D (fun q : Nat => s.heap.size ≤ q) [(a2, .inr (4, [.int 0, .ref ed, .int 0])), (a3, .inr (4, [.int 0, .ref ed, .int 0])), (a4, .inr (4, [.int 0, .ref ed, .int 0])), (tt, .inl (cT, 24, .inl (fun _ => 0))), (rr, .inr (6, [.ref t1, .ref t2, .int 0, .int 0, .long 0, .long 0])), (mo, .inr (15, [.ref b1, .ref b2, .ref b3, .ref b4, .ref b5, .int 0])), (b1, .inr (4, [.int 0, .ref ed, .int 0])), (b2, .inr (4, [.int 0, .ref ed, .int 0])), (b3, .inr (4, [.int 0, .ref ed, .int 0])), (b4, .inr (4, [.int 0, .ref ed, .int 0])), (b5, .inr (4, [.int 0, .ref ed, .int 0])), (ou, .inl (cO, 1, .inr (.inl (fun _ => 0)))), (od, .inl (cD, 1, .inr (.inr (.inr (.inl (fun _ => 0)))))), (x, .inr (11, [.ref a1, .ref a2, .ref a3, .ref a4, .ref tt, .int 0, .ref rr, .ref cq])), (a1, .inr (4, [.int 0, .ref ed, .int 0]))] := hD
  have hK : va_K (dC, dI) vwCl [(cT, .int), (cO, .long), (cD, .double)] s := hK
  refine W.widen (k := 28) (n := 304) (Nat.le_of_ble_eq_true rfl) (Nat.le_of_ble_eq_true rfl) ?_
  have hw : r_509 = 1 := hw
  subst hw
  refine lv_istore (lv' := [(6, .int 1), (5, .int 0), (4, .ref od), (3, .ref ou), (2, .ref mo), (1, .ref x), (0, .ref b)]) hx hb dL_law_607 hl (by decide) rfl (fun ls hl => ?_)
  refine lv_aload_n hx hb dL_law_609 rfl (lv_at hl 4 rfl) ?_
  refine lv_aload_n hx hb dL_law_610 rfl (lv_at hl 6 rfl) ?_
  refine lv_iload hx hb dL_law_611 (lv_at hl 1 rfl) ?_
  refine lv_iconst (v := 1) hx hb dL_law_613 (by decide) ?_
  refine lv_iadd hx hb dL_law_614 ?_
  refine lv_numI (v := 1) (by decide) ?_
  refine va_sld hx hb hX hbl hbA hS (by unfold vp_in; decide) dL_law_615 ?_
  have hPc := hP.sub (ws' := [(mo, .inr (15, [.ref b1, .ref b2, .ref b3, .ref b4, .ref b5, .int 0])), (b1, .inr (4, [.int 0, .ref ed, .int 0]))]) [5, 6] rfl
  have hDc := hD.sub (ws' := [(mo, .inr (15, [.ref b1, .ref b2, .ref b3, .ref b4, .ref b5, .int 0])), (b1, .inr (4, [.int 0, .ref ed, .int 0]))]) [5, 6] (by decide) rfl
  have hKc := hK.sub (tys' := []) [] rfl
  have hFc := va_free (wc := [(mo, .inr (15, [.ref b1, .ref b2, .ref b3, .ref b4, .ref b5, .int 0])), (b1, .inr (4, [.int 0, .ref ed, .int 0]))]) hD hS hA [5, 6] rfl
  refine va_calli (va_runV (As := [.int (xs (Int32.toNatClampNeg 1))]) (rest := []) ⟨hx, hb, hml, hown, hts⟩ (y_getResonance l dC dI H.size mo b1 (.ref b2) (.ref b3) (.ref b4) (.ref b5) (.int 0) (.ref ed) 0 (xs (Int32.toNatClampNeg 1))) (cwV 1 hts (pw_V q1381 q1382 q1383 q49 q1384) rfl rfl rfl (by decide +kernel) ⟨(Nat.le_of_ble_eq_true rfl), (Nat.le_of_ble_eq_true rfl)⟩) ⟨fun a U g mk q => by obtain ⟨q0, q1, qP, qK, qD⟩ := q; exact ⟨q0, q1, qP, va_K.moved (u := U) (U := U.calling g mk a) (Vm.Alike.refl U.vm) qK, qD⟩, va_recv hKc hPc (ci := 15) (q0 := 0) rfl rfl, fun U hU hW => ⟨rfl, by rw [hU], by rw [hU]; exact hPc, va_K.moved hW.alike hKc, hDc.weaken (fun _ _ _ _ => trivial)⟩⟩ rfl rfl hl.1 rfl (lv_room (Nat.le_of_ble_eq_true rfl)) dL_law_616 ⟨(Nat.le_of_ble_eq_true rfl), (Nat.le_of_ble_eq_true rfl)⟩) hS (fun q _ h => hFc q h) hFc (fun r_510 u t H1 locs ht hvm hw hB hz1 hk1 hS => ?_)
  obtain ⟨hP1, hK1, hD1⟩ := hB
  rw [ht] at hP1
  have hK1 := va_K.moved hvm.symm hK1
  obtain ⟨hP, hD⟩ := va_join (wr := [(a2, .inr (4, [.int 0, .ref ed, .int 0])), (a3, .inr (4, [.int 0, .ref ed, .int 0])), (a4, .inr (4, [.int 0, .ref ed, .int 0])), (tt, .inl (cT, 24, .inl (fun _ => 0))), (rr, .inr (6, [.ref t1, .ref t2, .int 0, .int 0, .long 0, .long 0])), (b2, .inr (4, [.int 0, .ref ed, .int 0])), (b3, .inr (4, [.int 0, .ref ed, .int 0])), (b4, .inr (4, [.int 0, .ref ed, .int 0])), (b5, .inr (4, [.int 0, .ref ed, .int 0])), (ou, .inl (cO, 1, .inr (.inl (fun _ => 0)))), (od, .inl (cD, 1, .inr (.inr (.inr (.inl (fun _ => 0)))))), (x, .inr (11, [.ref a1, .ref a2, .ref a3, .ref a4, .ref tt, .int 0, .ref rr, .ref cq])), (a1, .inr (4, [.int 0, .ref ed, .int 0]))]) (w1 := [(mo, .inr (15, [.ref b1, .ref b2, .ref b3, .ref b4, .ref b5, .int 1])), (b1, .inr (4, [.int 0, .ref ed, .int 0]))]) hP hD [5, 6] [0, 1, 2, 3, 4, 7, 8, 9, 10, 11, 12, 13, 14] rfl rfl (by decide) (by decide) hk1 hFc hP1 hD1
  have hK := (hK.sub (tys' := [(cT, .int), (cO, .long), (cD, .double)]) [0, 1, 2] rfl).app hK1
  generalize H1 = H at hP hS ⊢
  have hP : va_P (dC, dI) vwCl [(a2, .inr (4, [.int 0, .ref ed, .int 0])), (a3, .inr (4, [.int 0, .ref ed, .int 0])), (a4, .inr (4, [.int 0, .ref ed, .int 0])), (tt, .inl (cT, 24, .inl (fun _ => 0))), (rr, .inr (6, [.ref t1, .ref t2, .int 0, .int 0, .long 0, .long 0])), (b2, .inr (4, [.int 0, .ref ed, .int 0])), (b3, .inr (4, [.int 0, .ref ed, .int 0])), (b4, .inr (4, [.int 0, .ref ed, .int 0])), (b5, .inr (4, [.int 0, .ref ed, .int 0])), (ou, .inl (cO, 1, .inr (.inl (fun _ => 0)))), (od, .inl (cD, 1, .inr (.inr (.inr (.inl (fun _ => 0)))))), (x, .inr (11, [.ref a1, .ref a2, .ref a3, .ref a4, .ref tt, .int 0, .ref rr, .ref cq])), (a1, .inr (4, [.int 0, .ref ed, .int 0])), (mo, .inr (15, [.ref b1, .ref b2, .ref b3, .ref b4, .ref b5, .int 1])), (b1, .inr (4, [.int 0, .ref ed, .int 0]))] H := hP
  have hD : va_D (fun q : Nat => s.heap.size ≤ q) [(a2, .inr (4, [.int 0, .ref ed, .int 0])), (a3, .inr (4, [.int 0, .ref ed, .int 0])), (a4, .inr (4, [.int 0, .ref ed, .int 0])), (tt, .inl (cT, 24, .inl (fun _ => 0))), (rr, .inr (6, [.ref t1, .ref t2, .int 0, .int 0, .long 0, .long 0])), (b2, .inr (4, [.int 0, .ref ed, .int 0])), (b3, .inr (4, [.int 0, .ref ed, .int 0])), (b4, .inr (4, [.int 0, .ref ed, .int 0])), (b5, .inr (4, [.int 0, .ref ed, .int 0])), (ou, .inl (cO, 1, .inr (.inl (fun _ => 0)))), (od, .inl (cD, 1, .inr (.inr (.inr (.inl (fun _ => 0)))))), (x, .inr (11, [.ref a1, .ref a2, .ref a3, .ref a4, .ref tt, .int 0, .ref rr, .ref cq])), (a1, .inr (4, [.int 0, .ref ed, .int 0])), (mo, .inr (15, [.ref b1, .ref b2, .ref b3, .ref b4, .ref b5, .int 1])), (b1, .inr (4, [.int 0, .ref ed, .int 0]))] := hD
  have hK : va_K (dC, dI) vwCl [(cT, .int), (cO, .long), (cD, .double)] s := hK
  refine W.widen (k := 28) (n := 304) (Nat.le_of_ble_eq_true rfl) (Nat.le_of_ble_eq_true rfl) ?_
  have hw : r_510 = 0 := hw
  subst hw
  refine lv_istore (lv' := [(7, .int 0), (6, .int 1), (5, .int 0), (4, .ref od), (3, .ref ou), (2, .ref mo), (1, .ref x), (0, .ref b)]) hx hb dL_law_619 hl (by decide) rfl (fun ls hl => ?_)
  refine lv_aload_n hx hb dL_law_621 rfl (lv_at hl 5 rfl) ?_
  have hPc := hP.sub (ws' := [(mo, .inr (15, [.ref b1, .ref b2, .ref b3, .ref b4, .ref b5, .int 1]))]) [13] rfl
  have hDc := hD.sub (ws' := [(mo, .inr (15, [.ref b1, .ref b2, .ref b3, .ref b4, .ref b5, .int 1]))]) [13] (by decide) rfl
  have hKc := hK.sub (tys' := []) [] rfl
  have hFc := va_free (wc := [(mo, .inr (15, [.ref b1, .ref b2, .ref b3, .ref b4, .ref b5, .int 1]))]) hD hS hA [13] rfl
  refine va_calli (va_runV (As := []) (rest := []) ⟨hx, hb, hml, hown, hts⟩ (n_thrown l dC dI H.size mo (.ref b1) (.ref b2) (.ref b3) (.ref b4) (.ref b5) 1) (cwV 0 hts (pw_V q1244 q1245 q1246 q49 q1247) rfl rfl rfl (by decide +kernel) ⟨(Nat.le_of_ble_eq_true rfl), (Nat.le_of_ble_eq_true rfl)⟩) ⟨fun a U g mk q => by obtain ⟨q0, q1, qP, qK, qD⟩ := q; exact ⟨q0, q1, qP, va_K.moved (u := U) (U := U.calling g mk a) (Vm.Alike.refl U.vm) qK, qD⟩, va_recv hKc hPc (ci := 15) (q0 := 0) rfl rfl, fun U hU hW => ⟨rfl, by rw [hU], by rw [hU]; exact hPc, va_K.moved hW.alike hKc, hDc.weaken (fun _ _ _ _ => trivial)⟩⟩ rfl rfl hl.1 rfl (lv_room (Nat.le_of_ble_eq_true rfl)) dL_law_622 ⟨(Nat.le_of_ble_eq_true rfl), (Nat.le_of_ble_eq_true rfl)⟩) hS (fun q _ h => hFc q h) hFc (fun r_511 u t H1 locs ht hvm hw hB hz1 hk1 hS => ?_)
  obtain ⟨hP1, hK1, hD1⟩ := hB
  rw [ht] at hP1
  have hK1 := va_K.moved hvm.symm hK1
  obtain ⟨hP, hD⟩ := va_join (wr := [(a2, .inr (4, [.int 0, .ref ed, .int 0])), (a3, .inr (4, [.int 0, .ref ed, .int 0])), (a4, .inr (4, [.int 0, .ref ed, .int 0])), (tt, .inl (cT, 24, .inl (fun _ => 0))), (rr, .inr (6, [.ref t1, .ref t2, .int 0, .int 0, .long 0, .long 0])), (b2, .inr (4, [.int 0, .ref ed, .int 0])), (b3, .inr (4, [.int 0, .ref ed, .int 0])), (b4, .inr (4, [.int 0, .ref ed, .int 0])), (b5, .inr (4, [.int 0, .ref ed, .int 0])), (ou, .inl (cO, 1, .inr (.inl (fun _ => 0)))), (od, .inl (cD, 1, .inr (.inr (.inr (.inl (fun _ => 0)))))), (x, .inr (11, [.ref a1, .ref a2, .ref a3, .ref a4, .ref tt, .int 0, .ref rr, .ref cq])), (a1, .inr (4, [.int 0, .ref ed, .int 0])), (b1, .inr (4, [.int 0, .ref ed, .int 0]))]) (w1 := [(mo, .inr (15, [.ref b1, .ref b2, .ref b3, .ref b4, .ref b5, .int 1]))]) hP hD [13] [0, 1, 2, 3, 4, 5, 6, 7, 8, 9, 10, 11, 12, 14] rfl rfl (by decide) (by decide) hk1 hFc hP1 hD1
  have hK := (hK.sub (tys' := [(cT, .int), (cO, .long), (cD, .double)]) [0, 1, 2] rfl).app hK1
  generalize H1 = H at hP hS ⊢
  have hP : va_P (dC, dI) vwCl [(a2, .inr (4, [.int 0, .ref ed, .int 0])), (a3, .inr (4, [.int 0, .ref ed, .int 0])), (a4, .inr (4, [.int 0, .ref ed, .int 0])), (tt, .inl (cT, 24, .inl (fun _ => 0))), (rr, .inr (6, [.ref t1, .ref t2, .int 0, .int 0, .long 0, .long 0])), (b2, .inr (4, [.int 0, .ref ed, .int 0])), (b3, .inr (4, [.int 0, .ref ed, .int 0])), (b4, .inr (4, [.int 0, .ref ed, .int 0])), (b5, .inr (4, [.int 0, .ref ed, .int 0])), (ou, .inl (cO, 1, .inr (.inl (fun _ => 0)))), (od, .inl (cD, 1, .inr (.inr (.inr (.inl (fun _ => 0)))))), (x, .inr (11, [.ref a1, .ref a2, .ref a3, .ref a4, .ref tt, .int 0, .ref rr, .ref cq])), (a1, .inr (4, [.int 0, .ref ed, .int 0])), (b1, .inr (4, [.int 0, .ref ed, .int 0])), (mo, .inr (15, [.ref b1, .ref b2, .ref b3, .ref b4, .ref b5, .int 1]))] H := hP
  have hD : va_D (fun q : Nat => s.heap.size ≤ q) [(a2, .inr (4, [.int 0, .ref ed, .int 0])), (a3, .inr (4, [.int 0, .ref ed, .int 0])), (a4, .inr (4, [.int 0, .ref ed, .int 0])), (tt, .inl (cT, 24, .inl (fun _ => 0))), (rr, .inr (6, [.ref t1, .ref t2, .int 0, .int 0, .long 0, .long 0])), (b2, .inr (4, [.int 0, .ref ed, .int 0])), (b3, .inr (4, [.int 0, .ref ed, .int 0])), (b4, .inr (4, [.int 0, .ref ed, .int 0])), (b5, .inr (4, [.int 0, .ref ed, .int 0])), (ou, .inl (cO, 1, .inr (.inl (fun _ => 0)))), (od, .inl (cD, 1, .inr (.inr (.inr (.inl (fun _ => 0)))))), (x, .inr (11, [.ref a1, .ref a2, .ref a3, .ref a4, .ref tt, .int 0, .ref rr, .ref cq])), (a1, .inr (4, [.int 0, .ref ed, .int 0])), (b1, .inr (4, [.int 0, .ref ed, .int 0])), (mo, .inr (15, [.ref b1, .ref b2, .ref b3, .ref b4, .ref b5, .int 1]))] := hD
  have hK : va_K (dC, dI) vwCl [(cT, .int), (cO, .long), (cD, .double)] s := hK
  refine W.widen (k := 28) (n := 304) (Nat.le_of_ble_eq_true rfl) (Nat.le_of_ble_eq_true rfl) ?_
  have hw : r_511 = 1 := hw
  subst hw
  refine lv_iload hx hb dL_law_625 (lv_at hl 1 rfl) ?_
  refine lv_icmp_eq (tgt := 632) hx hb dL_law_627 (by decide) (fun c_512 => ?_) (fun c_512 => absurd (by decide) c_512)
  refine lv_iload hx hb dL_law_632 (lv_at hl 1 rfl) ?_
  refine lv_if_ne (tgt := 649) hx hb dL_law_634 (by decide) (fun c_513 => ?_) (fun c_513 => absurd c_513 (by decide))
  refine lv_goto (tgt := 3072) hx hb dL_law_649 (by decide) ?_
  refine W.widen (k := 100) (n := 1000) (Nat.le_of_ble_eq_true rfl) (Nat.le_of_ble_eq_true rfl) ?_
  exact law_tail l C0 hS (lv_sub hl [2, 7] rfl)
set_option maxHeartbeats 4000000 in
set_option maxRecDepth 100000 in
theorem law_case_6 {p : Program} {e : Env} {s : State} {m : MethodId} {below : List Frame} {meth : Method} {c : Code} (l : Launch) (hl9 : l.stackTraces = false) (dC : Nat → ClassId) (dI : Nat → Nat → Nat) (ed : Nat) {b : Nat} {xs : Nat → Int32} (C0 : lw_At p s m meth c b 5 xs) (hZ : pz ed (fun q : Nat => s.heap.size ≤ q) s s.heap) (x a1 a2 a3 a4 tt rr cq t1 t2 mo b1 b2 b3 b4 b5 ou od : Nat) (cT cO cD : ClassId) {H : Heap} {locs : List Loc} (hK : va_K (dC, dI) vwCl [(cT, .int), (cO, .long), (cD, .double)] s) (hP : va_P (dC, dI) vwCl [(x, .inr (11, [.ref a1, .ref a2, .ref a3, .ref a4, .ref tt, .int 0, .ref rr, .ref cq])), (a1, .inr (4, [.int 0, .ref ed, .int 0])), (a2, .inr (4, [.int 0, .ref ed, .int 0])), (a3, .inr (4, [.int 0, .ref ed, .int 0])), (a4, .inr (4, [.int 0, .ref ed, .int 0])), (tt, .inl (cT, 24, .inl (fun _ => 0))), (rr, .inr (6, [.ref t1, .ref t2, .int 0, .int 0, .long 0, .long 0])), (mo, .inr (15, [.ref b1, .ref b2, .ref b3, .ref b4, .ref b5, .int 0])), (b1, .inr (4, [.int 0, .ref ed, .int 0])), (b2, .inr (4, [.int 0, .ref ed, .int 0])), (b3, .inr (4, [.int 0, .ref ed, .int 0])), (b4, .inr (4, [.int 0, .ref ed, .int 0])), (b5, .inr (4, [.int 0, .ref ed, .int 0])), (ou, .inl (cO, 1, .inr (.inl (fun _ => 0)))), (od, .inl (cD, 1, .inr (.inr (.inr (.inl (fun _ => 0))))))] H) (hD : va_D (fun q : Nat => s.heap.size ≤ q) [(x, .inr (11, [.ref a1, .ref a2, .ref a3, .ref a4, .ref tt, .int 0, .ref rr, .ref cq])), (a1, .inr (4, [.int 0, .ref ed, .int 0])), (a2, .inr (4, [.int 0, .ref ed, .int 0])), (a3, .inr (4, [.int 0, .ref ed, .int 0])), (a4, .inr (4, [.int 0, .ref ed, .int 0])), (tt, .inl (cT, 24, .inl (fun _ => 0))), (rr, .inr (6, [.ref t1, .ref t2, .int 0, .int 0, .long 0, .long 0])), (mo, .inr (15, [.ref b1, .ref b2, .ref b3, .ref b4, .ref b5, .int 0])), (b1, .inr (4, [.int 0, .ref ed, .int 0])), (b2, .inr (4, [.int 0, .ref ed, .int 0])), (b3, .inr (4, [.int 0, .ref ed, .int 0])), (b4, .inr (4, [.int 0, .ref ed, .int 0])), (b5, .inr (4, [.int 0, .ref ed, .int 0])), (ou, .inl (cO, 1, .inr (.inl (fun _ => 0)))), (od, .inl (cD, 1, .inr (.inr (.inr (.inl (fun _ => 0))))))]) (hS : va_S (fun q : Nat => s.heap.size ≤ q) s.heap H locs) {ls : Array Slot} (hl : lv_has ls 9 [(5, .int 0), (4, .ref od), (3, .ref ou), (2, .ref mo), (1, .ref x), (0, .ref b)]) : W p l e room_1 s m #[Value.ref b] below meth c H locs 27 298 (lw_Z below #[Value.ref b] s) (F0 m 652 ls []) := by
  obtain ⟨hx, hb, hr, hml, hown, hts0, hX, hbl, hlocks, hgv⟩ := id C0
  have hts : ∀ w ∈ pw_all, w.before #[Value.ref b] s = true := fun w h => hts0 w (pw_tbl h)
  have hA : ∀ q : Nat, s.heap.size ≤ q → (fun q : Nat => s.heap.size ≤ q) q := fun _ h => h
  have hbA : ¬ (fun q : Nat => s.heap.size ≤ q) b := Nat.not_le.mpr hbl
  refine lv_aload_n hx hb dL_law_652 rfl (lv_at hl 4 rfl) ?_
  refine lv_aload_n hx hb dL_law_653 rfl (lv_at hl 5 rfl) ?_
  refine lv_iload hx hb dL_law_654 (lv_at hl 0 rfl) ?_
  refine lv_iconst (v := 1) hx hb dL_law_656 (by decide) ?_
  refine lv_iadd hx hb dL_law_657 ?_
  refine lv_numI (v := 1) (by decide) ?_
  refine va_sld hx hb hX hbl hbA hS (by unfold vp_in; decide) dL_law_658 ?_
  refine lv_aload_n hx hb dL_law_659 rfl (lv_at hl 5 rfl) ?_
  refine lv_iload hx hb dL_law_660 (lv_at hl 0 rfl) ?_
  refine lv_iconst (v := 2) hx hb dL_law_662 (by decide) ?_
  refine lv_iadd hx hb dL_law_663 ?_
  refine lv_numI (v := 2) (by decide) ?_
  refine va_sld hx hb hX hbl hbA hS (by unfold vp_in; decide) dL_law_664 ?_
  refine lv_aload_n hx hb dL_law_665 rfl (lv_at hl 5 rfl) ?_
  refine lv_iload hx hb dL_law_666 (lv_at hl 0 rfl) ?_
  refine lv_iconst (v := 3) hx hb dL_law_668 (by decide) ?_
  refine lv_iadd hx hb dL_law_669 ?_
  refine lv_numI (v := 3) (by decide) ?_
  refine va_sld hx hb hX hbl hbA hS (by unfold vp_in; decide) dL_law_670 ?_
  refine lv_aload_n hx hb dL_law_671 rfl (lv_at hl 5 rfl) ?_
  refine lv_iload hx hb dL_law_672 (lv_at hl 0 rfl) ?_
  refine lv_iconst (v := 4) hx hb dL_law_674 (by decide) ?_
  refine lv_iadd hx hb dL_law_675 ?_
  refine lv_numI (v := 4) (by decide) ?_
  refine va_sld hx hb hX hbl hbA hS (by unfold vp_in; decide) dL_law_676 ?_
  refine lv_aload_n hx hb dL_law_677 rfl (lv_at hl 2 rfl) ?_
  have hPc := hP.sub (ws' := [(x, .inr (11, [.ref a1, .ref a2, .ref a3, .ref a4, .ref tt, .int 0, .ref rr, .ref cq])), (a1, .inr (4, [.int 0, .ref ed, .int 0]))]) [0, 1] rfl
  have hDc := hD.sub (ws' := [(x, .inr (11, [.ref a1, .ref a2, .ref a3, .ref a4, .ref tt, .int 0, .ref rr, .ref cq])), (a1, .inr (4, [.int 0, .ref ed, .int 0]))]) [0, 1] (by decide) rfl
  have hKc := hK.sub (tys' := []) [] rfl
  have hFc := va_free (wc := [(x, .inr (11, [.ref a1, .ref a2, .ref a3, .ref a4, .ref tt, .int 0, .ref rr, .ref cq])), (a1, .inr (4, [.int 0, .ref ed, .int 0]))]) hD hS hA [0, 1] rfl
  refine va_calli (vx_runSW (As := [.ref x, .int (xs (Int32.toNatClampNeg 1)), .int (xs (Int32.toNatClampNeg 2)), .int (xs (Int32.toNatClampNeg 3)), .int (xs (Int32.toNatClampNeg 4)), .ref ou]) (rest := []) ⟨hx, hb, hml, hown, hts⟩ (w_addSensor l hl9 dC dI H.size ed x a1 (.ref a2) (.ref a3) (.ref a4) (.ref tt) (.int 0) (.ref rr) (.ref cq) (.int 0) (.ref ed) (xs (Int32.toNatClampNeg 1)) (xs (Int32.toNatClampNeg 2)) (xs (Int32.toNatClampNeg 3)) (xs (Int32.toNatClampNeg 4)) ou) (vx_cwSW 6 hts (pw_S q651 q652 q42 q653) rfl rfl rfl (by decide +kernel) ⟨(Nat.le_of_ble_eq_true rfl), (Nat.le_of_ble_eq_true rfl)⟩) ⟨fun a U g mk q => by obtain ⟨q0, q1, qP, qK, qD, qZ⟩ := q; exact ⟨q0, q1, qP, va_K.moved (u := U) (U := U.calling g mk a) (Vm.Alike.refl U.vm) qK, qD, qZ.same rfl⟩, fun U hU hW => ⟨rfl, by rw [hU], by rw [hU]; exact hPc, va_K.moved hW.alike hKc, hDc.weaken (fun _ _ _ _ => trivial), hZ.call hS hFc hU hW⟩⟩ rfl rfl hl.1 rfl (lv_room (Nat.le_of_ble_eq_true rfl)) dL_law_678 ⟨(Nat.le_of_ble_eq_true rfl), (Nat.le_of_ble_eq_true rfl)⟩) hS (fun q _ h => hFc q h) hFc (fun r_514 u t H1 locs ht hvm hw hB hz1 hk1 hS => ?_)
  obtain ⟨hP1, hK1, hD1⟩ := hB
  rw [ht] at hP1
  have hK1 := va_K.moved hvm.symm hK1
  obtain ⟨hP, hD⟩ := va_join (wr := [(a2, .inr (4, [.int 0, .ref ed, .int 0])), (a3, .inr (4, [.int 0, .ref ed, .int 0])), (a4, .inr (4, [.int 0, .ref ed, .int 0])), (tt, .inl (cT, 24, .inl (fun _ => 0))), (rr, .inr (6, [.ref t1, .ref t2, .int 0, .int 0, .long 0, .long 0])), (mo, .inr (15, [.ref b1, .ref b2, .ref b3, .ref b4, .ref b5, .int 0])), (b1, .inr (4, [.int 0, .ref ed, .int 0])), (b2, .inr (4, [.int 0, .ref ed, .int 0])), (b3, .inr (4, [.int 0, .ref ed, .int 0])), (b4, .inr (4, [.int 0, .ref ed, .int 0])), (b5, .inr (4, [.int 0, .ref ed, .int 0])), (ou, .inl (cO, 1, .inr (.inl (fun _ => 0)))), (od, .inl (cD, 1, .inr (.inr (.inr (.inl (fun _ => 0))))))]) (w1 := [(x, .inr (11, [.ref a1, .ref a2, .ref a3, .ref a4, .ref tt, .int 0, .ref rr, .ref cq])), (a1, .inr (4, [.int 0, .ref ed, .int 0]))]) hP hD [0, 1] [2, 3, 4, 5, 6, 7, 8, 9, 10, 11, 12, 13, 14] rfl rfl (by decide) (by decide) hk1 hFc hP1 hD1
  have hK := (hK.sub (tys' := [(cT, .int), (cO, .long), (cD, .double)]) [0, 1, 2] rfl).app hK1
  generalize H1 = H at hP hS ⊢
  have hP : va_P (dC, dI) vwCl [(a2, .inr (4, [.int 0, .ref ed, .int 0])), (a3, .inr (4, [.int 0, .ref ed, .int 0])), (a4, .inr (4, [.int 0, .ref ed, .int 0])), (tt, .inl (cT, 24, .inl (fun _ => 0))), (rr, .inr (6, [.ref t1, .ref t2, .int 0, .int 0, .long 0, .long 0])), (mo, .inr (15, [.ref b1, .ref b2, .ref b3, .ref b4, .ref b5, .int 0])), (b1, .inr (4, [.int 0, .ref ed, .int 0])), (b2, .inr (4, [.int 0, .ref ed, .int 0])), (b3, .inr (4, [.int 0, .ref ed, .int 0])), (b4, .inr (4, [.int 0, .ref ed, .int 0])), (b5, .inr (4, [.int 0, .ref ed, .int 0])), (ou, .inl (cO, 1, .inr (.inl (fun _ => 0)))), (od, .inl (cD, 1, .inr (.inr (.inr (.inl (fun _ => 0)))))), (x, .inr (11, [.ref a1, .ref a2, .ref a3, .ref a4, .ref tt, .int 0, .ref rr, .ref cq])), (a1, .inr (4, [.int 0, .ref ed, .int 0]))] H := hP
  have hD : va_D (fun q : Nat => s.heap.size ≤ q) [(a2, .inr (4, [.int 0, .ref ed, .int 0])), (a3, .inr (4, [.int 0, .ref ed, .int 0])), (a4, .inr (4, [.int 0, .ref ed, .int 0])), (tt, .inl (cT, 24, .inl (fun _ => 0))), (rr, .inr (6, [.ref t1, .ref t2, .int 0, .int 0, .long 0, .long 0])), (mo, .inr (15, [.ref b1, .ref b2, .ref b3, .ref b4, .ref b5, .int 0])), (b1, .inr (4, [.int 0, .ref ed, .int 0])), (b2, .inr (4, [.int 0, .ref ed, .int 0])), (b3, .inr (4, [.int 0, .ref ed, .int 0])), (b4, .inr (4, [.int 0, .ref ed, .int 0])), (b5, .inr (4, [.int 0, .ref ed, .int 0])), (ou, .inl (cO, 1, .inr (.inl (fun _ => 0)))), (od, .inl (cD, 1, .inr (.inr (.inr (.inl (fun _ => 0)))))), (x, .inr (11, [.ref a1, .ref a2, .ref a3, .ref a4, .ref tt, .int 0, .ref rr, .ref cq])), (a1, .inr (4, [.int 0, .ref ed, .int 0]))] := hD
  have hK : va_K (dC, dI) vwCl [(cT, .int), (cO, .long), (cD, .double)] s := hK
  refine W.widen (k := 28) (n := 304) (Nat.le_of_ble_eq_true rfl) (Nat.le_of_ble_eq_true rfl) ?_
  have hw : r_514 = 1 := hw
  subst hw
  refine lv_istore (lv' := [(6, .int 1), (5, .int 0), (4, .ref od), (3, .ref ou), (2, .ref mo), (1, .ref x), (0, .ref b)]) hx hb dL_law_681 hl (by decide) rfl (fun ls hl => ?_)
  refine lv_aload_n hx hb dL_law_683 rfl (lv_at hl 4 rfl) ?_
  refine lv_aload_n hx hb dL_law_684 rfl (lv_at hl 6 rfl) ?_
  refine lv_iload hx hb dL_law_685 (lv_at hl 1 rfl) ?_
  refine lv_iconst (v := 1) hx hb dL_law_687 (by decide) ?_
  refine lv_iadd hx hb dL_law_688 ?_
  refine lv_numI (v := 1) (by decide) ?_
  refine va_sld hx hb hX hbl hbA hS (by unfold vp_in; decide) dL_law_689 ?_
  refine lv_aload_n hx hb dL_law_690 rfl (lv_at hl 6 rfl) ?_
  refine lv_iload hx hb dL_law_691 (lv_at hl 1 rfl) ?_
  refine lv_iconst (v := 2) hx hb dL_law_693 (by decide) ?_
  refine lv_iadd hx hb dL_law_694 ?_
  refine lv_numI (v := 2) (by decide) ?_
  refine va_sld hx hb hX hbl hbA hS (by unfold vp_in; decide) dL_law_695 ?_
  refine lv_aload_n hx hb dL_law_696 rfl (lv_at hl 6 rfl) ?_
  refine lv_iload hx hb dL_law_697 (lv_at hl 1 rfl) ?_
  refine lv_iconst (v := 3) hx hb dL_law_699 (by decide) ?_
  refine lv_iadd hx hb dL_law_700 ?_
  refine lv_numI (v := 3) (by decide) ?_
  refine va_sld hx hb hX hbl hbA hS (by unfold vp_in; decide) dL_law_701 ?_
  refine lv_aload_n hx hb dL_law_702 rfl (lv_at hl 6 rfl) ?_
  refine lv_iload hx hb dL_law_703 (lv_at hl 1 rfl) ?_
  refine lv_iconst (v := 4) hx hb dL_law_705 (by decide) ?_
  refine lv_iadd hx hb dL_law_706 ?_
  refine lv_numI (v := 4) (by decide) ?_
  refine va_sld hx hb hX hbl hbA hS (by unfold vp_in; decide) dL_law_707 ?_
  have hPc := hP.sub (ws' := [(mo, .inr (15, [.ref b1, .ref b2, .ref b3, .ref b4, .ref b5, .int 0])), (b1, .inr (4, [.int 0, .ref ed, .int 0]))]) [5, 6] rfl
  have hDc := hD.sub (ws' := [(mo, .inr (15, [.ref b1, .ref b2, .ref b3, .ref b4, .ref b5, .int 0])), (b1, .inr (4, [.int 0, .ref ed, .int 0]))]) [5, 6] (by decide) rfl
  have hKc := hK.sub (tys' := []) [] rfl
  have hFc := va_free (wc := [(mo, .inr (15, [.ref b1, .ref b2, .ref b3, .ref b4, .ref b5, .int 0])), (b1, .inr (4, [.int 0, .ref ed, .int 0]))]) hD hS hA [5, 6] rfl
  refine va_calli (va_runV (As := [.int (xs (Int32.toNatClampNeg 1)), .int (xs (Int32.toNatClampNeg 2)), .int (xs (Int32.toNatClampNeg 3)), .int (xs (Int32.toNatClampNeg 4))]) (rest := []) ⟨hx, hb, hml, hown, hts⟩ (y_addSensor l dC dI H.size mo b1 (.ref b2) (.ref b3) (.ref b4) (.ref b5) (.int 0) (.ref ed) 0 (xs (Int32.toNatClampNeg 1)) (xs (Int32.toNatClampNeg 2)) (xs (Int32.toNatClampNeg 3)) (xs (Int32.toNatClampNeg 4))) (cwV 4 hts (pw_V q1401 q1402 q1403 q49 q1404) rfl rfl rfl (by decide +kernel) ⟨(Nat.le_of_ble_eq_true rfl), (Nat.le_of_ble_eq_true rfl)⟩) ⟨fun a U g mk q => by obtain ⟨q0, q1, qP, qK, qD⟩ := q; exact ⟨q0, q1, qP, va_K.moved (u := U) (U := U.calling g mk a) (Vm.Alike.refl U.vm) qK, qD⟩, va_recv hKc hPc (ci := 15) (q0 := 0) rfl rfl, fun U hU hW => ⟨rfl, by rw [hU], by rw [hU]; exact hPc, va_K.moved hW.alike hKc, hDc.weaken (fun _ _ _ _ => trivial)⟩⟩ rfl rfl hl.1 rfl (lv_room (Nat.le_of_ble_eq_true rfl)) dL_law_708 ⟨(Nat.le_of_ble_eq_true rfl), (Nat.le_of_ble_eq_true rfl)⟩) hS (fun q _ h => hFc q h) hFc (fun r_515 u t H1 locs ht hvm hw hB hz1 hk1 hS => ?_)
  obtain ⟨hP1, hK1, hD1⟩ := hB
  rw [ht] at hP1
  have hK1 := va_K.moved hvm.symm hK1
  obtain ⟨hP, hD⟩ := va_join (wr := [(a2, .inr (4, [.int 0, .ref ed, .int 0])), (a3, .inr (4, [.int 0, .ref ed, .int 0])), (a4, .inr (4, [.int 0, .ref ed, .int 0])), (tt, .inl (cT, 24, .inl (fun _ => 0))), (rr, .inr (6, [.ref t1, .ref t2, .int 0, .int 0, .long 0, .long 0])), (b2, .inr (4, [.int 0, .ref ed, .int 0])), (b3, .inr (4, [.int 0, .ref ed, .int 0])), (b4, .inr (4, [.int 0, .ref ed, .int 0])), (b5, .inr (4, [.int 0, .ref ed, .int 0])), (ou, .inl (cO, 1, .inr (.inl (fun _ => 0)))), (od, .inl (cD, 1, .inr (.inr (.inr (.inl (fun _ => 0)))))), (x, .inr (11, [.ref a1, .ref a2, .ref a3, .ref a4, .ref tt, .int 0, .ref rr, .ref cq])), (a1, .inr (4, [.int 0, .ref ed, .int 0]))]) (w1 := [(mo, .inr (15, [.ref b1, .ref b2, .ref b3, .ref b4, .ref b5, .int 1])), (b1, .inr (4, [.int 0, .ref ed, .int 0]))]) hP hD [5, 6] [0, 1, 2, 3, 4, 7, 8, 9, 10, 11, 12, 13, 14] rfl rfl (by decide) (by decide) hk1 hFc hP1 hD1
  have hK := (hK.sub (tys' := [(cT, .int), (cO, .long), (cD, .double)]) [0, 1, 2] rfl).app hK1
  generalize H1 = H at hP hS ⊢
  have hP : va_P (dC, dI) vwCl [(a2, .inr (4, [.int 0, .ref ed, .int 0])), (a3, .inr (4, [.int 0, .ref ed, .int 0])), (a4, .inr (4, [.int 0, .ref ed, .int 0])), (tt, .inl (cT, 24, .inl (fun _ => 0))), (rr, .inr (6, [.ref t1, .ref t2, .int 0, .int 0, .long 0, .long 0])), (b2, .inr (4, [.int 0, .ref ed, .int 0])), (b3, .inr (4, [.int 0, .ref ed, .int 0])), (b4, .inr (4, [.int 0, .ref ed, .int 0])), (b5, .inr (4, [.int 0, .ref ed, .int 0])), (ou, .inl (cO, 1, .inr (.inl (fun _ => 0)))), (od, .inl (cD, 1, .inr (.inr (.inr (.inl (fun _ => 0)))))), (x, .inr (11, [.ref a1, .ref a2, .ref a3, .ref a4, .ref tt, .int 0, .ref rr, .ref cq])), (a1, .inr (4, [.int 0, .ref ed, .int 0])), (mo, .inr (15, [.ref b1, .ref b2, .ref b3, .ref b4, .ref b5, .int 1])), (b1, .inr (4, [.int 0, .ref ed, .int 0]))] H := hP
  have hD : va_D (fun q : Nat => s.heap.size ≤ q) [(a2, .inr (4, [.int 0, .ref ed, .int 0])), (a3, .inr (4, [.int 0, .ref ed, .int 0])), (a4, .inr (4, [.int 0, .ref ed, .int 0])), (tt, .inl (cT, 24, .inl (fun _ => 0))), (rr, .inr (6, [.ref t1, .ref t2, .int 0, .int 0, .long 0, .long 0])), (b2, .inr (4, [.int 0, .ref ed, .int 0])), (b3, .inr (4, [.int 0, .ref ed, .int 0])), (b4, .inr (4, [.int 0, .ref ed, .int 0])), (b5, .inr (4, [.int 0, .ref ed, .int 0])), (ou, .inl (cO, 1, .inr (.inl (fun _ => 0)))), (od, .inl (cD, 1, .inr (.inr (.inr (.inl (fun _ => 0)))))), (x, .inr (11, [.ref a1, .ref a2, .ref a3, .ref a4, .ref tt, .int 0, .ref rr, .ref cq])), (a1, .inr (4, [.int 0, .ref ed, .int 0])), (mo, .inr (15, [.ref b1, .ref b2, .ref b3, .ref b4, .ref b5, .int 1])), (b1, .inr (4, [.int 0, .ref ed, .int 0]))] := hD
  have hK : va_K (dC, dI) vwCl [(cT, .int), (cO, .long), (cD, .double)] s := hK
  refine W.widen (k := 28) (n := 304) (Nat.le_of_ble_eq_true rfl) (Nat.le_of_ble_eq_true rfl) ?_
  have hw : r_515 = 0 := hw
  subst hw
  refine lv_istore (lv' := [(7, .int 0), (6, .int 1), (5, .int 0), (4, .ref od), (3, .ref ou), (2, .ref mo), (1, .ref x), (0, .ref b)]) hx hb dL_law_711 hl (by decide) rfl (fun ls hl => ?_)
  refine lv_aload_n hx hb dL_law_713 rfl (lv_at hl 5 rfl) ?_
  have hPc := hP.sub (ws' := [(mo, .inr (15, [.ref b1, .ref b2, .ref b3, .ref b4, .ref b5, .int 1]))]) [13] rfl
  have hDc := hD.sub (ws' := [(mo, .inr (15, [.ref b1, .ref b2, .ref b3, .ref b4, .ref b5, .int 1]))]) [13] (by decide) rfl
  have hKc := hK.sub (tys' := []) [] rfl
  have hFc := va_free (wc := [(mo, .inr (15, [.ref b1, .ref b2, .ref b3, .ref b4, .ref b5, .int 1]))]) hD hS hA [13] rfl
  refine va_calli (va_runV (As := []) (rest := []) ⟨hx, hb, hml, hown, hts⟩ (n_thrown l dC dI H.size mo (.ref b1) (.ref b2) (.ref b3) (.ref b4) (.ref b5) 1) (cwV 0 hts (pw_V q1244 q1245 q1246 q49 q1247) rfl rfl rfl (by decide +kernel) ⟨(Nat.le_of_ble_eq_true rfl), (Nat.le_of_ble_eq_true rfl)⟩) ⟨fun a U g mk q => by obtain ⟨q0, q1, qP, qK, qD⟩ := q; exact ⟨q0, q1, qP, va_K.moved (u := U) (U := U.calling g mk a) (Vm.Alike.refl U.vm) qK, qD⟩, va_recv hKc hPc (ci := 15) (q0 := 0) rfl rfl, fun U hU hW => ⟨rfl, by rw [hU], by rw [hU]; exact hPc, va_K.moved hW.alike hKc, hDc.weaken (fun _ _ _ _ => trivial)⟩⟩ rfl rfl hl.1 rfl (lv_room (Nat.le_of_ble_eq_true rfl)) dL_law_714 ⟨(Nat.le_of_ble_eq_true rfl), (Nat.le_of_ble_eq_true rfl)⟩) hS (fun q _ h => hFc q h) hFc (fun r_516 u t H1 locs ht hvm hw hB hz1 hk1 hS => ?_)
  obtain ⟨hP1, hK1, hD1⟩ := hB
  rw [ht] at hP1
  have hK1 := va_K.moved hvm.symm hK1
  obtain ⟨hP, hD⟩ := va_join (wr := [(a2, .inr (4, [.int 0, .ref ed, .int 0])), (a3, .inr (4, [.int 0, .ref ed, .int 0])), (a4, .inr (4, [.int 0, .ref ed, .int 0])), (tt, .inl (cT, 24, .inl (fun _ => 0))), (rr, .inr (6, [.ref t1, .ref t2, .int 0, .int 0, .long 0, .long 0])), (b2, .inr (4, [.int 0, .ref ed, .int 0])), (b3, .inr (4, [.int 0, .ref ed, .int 0])), (b4, .inr (4, [.int 0, .ref ed, .int 0])), (b5, .inr (4, [.int 0, .ref ed, .int 0])), (ou, .inl (cO, 1, .inr (.inl (fun _ => 0)))), (od, .inl (cD, 1, .inr (.inr (.inr (.inl (fun _ => 0)))))), (x, .inr (11, [.ref a1, .ref a2, .ref a3, .ref a4, .ref tt, .int 0, .ref rr, .ref cq])), (a1, .inr (4, [.int 0, .ref ed, .int 0])), (b1, .inr (4, [.int 0, .ref ed, .int 0]))]) (w1 := [(mo, .inr (15, [.ref b1, .ref b2, .ref b3, .ref b4, .ref b5, .int 1]))]) hP hD [13] [0, 1, 2, 3, 4, 5, 6, 7, 8, 9, 10, 11, 12, 14] rfl rfl (by decide) (by decide) hk1 hFc hP1 hD1
  have hK := (hK.sub (tys' := [(cT, .int), (cO, .long), (cD, .double)]) [0, 1, 2] rfl).app hK1
  generalize H1 = H at hP hS ⊢
  have hP : va_P (dC, dI) vwCl [(a2, .inr (4, [.int 0, .ref ed, .int 0])), (a3, .inr (4, [.int 0, .ref ed, .int 0])), (a4, .inr (4, [.int 0, .ref ed, .int 0])), (tt, .inl (cT, 24, .inl (fun _ => 0))), (rr, .inr (6, [.ref t1, .ref t2, .int 0, .int 0, .long 0, .long 0])), (b2, .inr (4, [.int 0, .ref ed, .int 0])), (b3, .inr (4, [.int 0, .ref ed, .int 0])), (b4, .inr (4, [.int 0, .ref ed, .int 0])), (b5, .inr (4, [.int 0, .ref ed, .int 0])), (ou, .inl (cO, 1, .inr (.inl (fun _ => 0)))), (od, .inl (cD, 1, .inr (.inr (.inr (.inl (fun _ => 0)))))), (x, .inr (11, [.ref a1, .ref a2, .ref a3, .ref a4, .ref tt, .int 0, .ref rr, .ref cq])), (a1, .inr (4, [.int 0, .ref ed, .int 0])), (b1, .inr (4, [.int 0, .ref ed, .int 0])), (mo, .inr (15, [.ref b1, .ref b2, .ref b3, .ref b4, .ref b5, .int 1]))] H := hP
  have hD : va_D (fun q : Nat => s.heap.size ≤ q) [(a2, .inr (4, [.int 0, .ref ed, .int 0])), (a3, .inr (4, [.int 0, .ref ed, .int 0])), (a4, .inr (4, [.int 0, .ref ed, .int 0])), (tt, .inl (cT, 24, .inl (fun _ => 0))), (rr, .inr (6, [.ref t1, .ref t2, .int 0, .int 0, .long 0, .long 0])), (b2, .inr (4, [.int 0, .ref ed, .int 0])), (b3, .inr (4, [.int 0, .ref ed, .int 0])), (b4, .inr (4, [.int 0, .ref ed, .int 0])), (b5, .inr (4, [.int 0, .ref ed, .int 0])), (ou, .inl (cO, 1, .inr (.inl (fun _ => 0)))), (od, .inl (cD, 1, .inr (.inr (.inr (.inl (fun _ => 0)))))), (x, .inr (11, [.ref a1, .ref a2, .ref a3, .ref a4, .ref tt, .int 0, .ref rr, .ref cq])), (a1, .inr (4, [.int 0, .ref ed, .int 0])), (b1, .inr (4, [.int 0, .ref ed, .int 0])), (mo, .inr (15, [.ref b1, .ref b2, .ref b3, .ref b4, .ref b5, .int 1]))] := hD
  have hK : va_K (dC, dI) vwCl [(cT, .int), (cO, .long), (cD, .double)] s := hK
  refine W.widen (k := 28) (n := 304) (Nat.le_of_ble_eq_true rfl) (Nat.le_of_ble_eq_true rfl) ?_
  have hw : r_516 = 1 := hw
  subst hw
  refine lv_iload hx hb dL_law_717 (lv_at hl 1 rfl) ?_
  refine lv_icmp_eq (tgt := 724) hx hb dL_law_719 (by decide) (fun c_517 => ?_) (fun c_517 => absurd (by decide) c_517)
  refine lv_iload hx hb dL_law_724 (lv_at hl 1 rfl) ?_
  refine lv_if_ne (tgt := 741) hx hb dL_law_726 (by decide) (fun c_518 => ?_) (fun c_518 => absurd c_518 (by decide))
  refine lv_goto (tgt := 3072) hx hb dL_law_741 (by decide) ?_
  refine W.widen (k := 100) (n := 1000) (Nat.le_of_ble_eq_true rfl) (Nat.le_of_ble_eq_true rfl) ?_
  exact law_tail l C0 hS (lv_sub hl [2, 7] rfl)
set_option maxHeartbeats 4000000 in
set_option maxRecDepth 100000 in
theorem law_case_7 {p : Program} {e : Env} {s : State} {m : MethodId} {below : List Frame} {meth : Method} {c : Code} (l : Launch) (hl9 : l.stackTraces = false) (dC : Nat → ClassId) (dI : Nat → Nat → Nat) (ed : Nat) {b : Nat} {xs : Nat → Int32} (C0 : lw_At p s m meth c b 5 xs) (hZ : pz ed (fun q : Nat => s.heap.size ≤ q) s s.heap) (x a1 a2 a3 a4 tt rr cq t1 t2 mo b1 b2 b3 b4 b5 ou od : Nat) (cT cO cD : ClassId) {H : Heap} {locs : List Loc} (hK : va_K (dC, dI) vwCl [(cT, .int), (cO, .long), (cD, .double)] s) (hP : va_P (dC, dI) vwCl [(x, .inr (11, [.ref a1, .ref a2, .ref a3, .ref a4, .ref tt, .int 0, .ref rr, .ref cq])), (a1, .inr (4, [.int 0, .ref ed, .int 0])), (a2, .inr (4, [.int 0, .ref ed, .int 0])), (a3, .inr (4, [.int 0, .ref ed, .int 0])), (a4, .inr (4, [.int 0, .ref ed, .int 0])), (tt, .inl (cT, 24, .inl (fun _ => 0))), (rr, .inr (6, [.ref t1, .ref t2, .int 0, .int 0, .long 0, .long 0])), (mo, .inr (15, [.ref b1, .ref b2, .ref b3, .ref b4, .ref b5, .int 0])), (b1, .inr (4, [.int 0, .ref ed, .int 0])), (b2, .inr (4, [.int 0, .ref ed, .int 0])), (b3, .inr (4, [.int 0, .ref ed, .int 0])), (b4, .inr (4, [.int 0, .ref ed, .int 0])), (b5, .inr (4, [.int 0, .ref ed, .int 0])), (ou, .inl (cO, 1, .inr (.inl (fun _ => 0)))), (od, .inl (cD, 1, .inr (.inr (.inr (.inl (fun _ => 0))))))] H) (hD : va_D (fun q : Nat => s.heap.size ≤ q) [(x, .inr (11, [.ref a1, .ref a2, .ref a3, .ref a4, .ref tt, .int 0, .ref rr, .ref cq])), (a1, .inr (4, [.int 0, .ref ed, .int 0])), (a2, .inr (4, [.int 0, .ref ed, .int 0])), (a3, .inr (4, [.int 0, .ref ed, .int 0])), (a4, .inr (4, [.int 0, .ref ed, .int 0])), (tt, .inl (cT, 24, .inl (fun _ => 0))), (rr, .inr (6, [.ref t1, .ref t2, .int 0, .int 0, .long 0, .long 0])), (mo, .inr (15, [.ref b1, .ref b2, .ref b3, .ref b4, .ref b5, .int 0])), (b1, .inr (4, [.int 0, .ref ed, .int 0])), (b2, .inr (4, [.int 0, .ref ed, .int 0])), (b3, .inr (4, [.int 0, .ref ed, .int 0])), (b4, .inr (4, [.int 0, .ref ed, .int 0])), (b5, .inr (4, [.int 0, .ref ed, .int 0])), (ou, .inl (cO, 1, .inr (.inl (fun _ => 0)))), (od, .inl (cD, 1, .inr (.inr (.inr (.inl (fun _ => 0))))))]) (hS : va_S (fun q : Nat => s.heap.size ≤ q) s.heap H locs) {ls : Array Slot} (hl : lv_has ls 9 [(5, .int 0), (4, .ref od), (3, .ref ou), (2, .ref mo), (1, .ref x), (0, .ref b)]) : W p l e room_1 s m #[Value.ref b] below meth c H locs 27 298 (lw_Z below #[Value.ref b] s) (F0 m 744 ls []) := by
  obtain ⟨hx, hb, hr, hml, hown, hts0, hX, hbl, hlocks, hgv⟩ := id C0
  have hts : ∀ w ∈ pw_all, w.before #[Value.ref b] s = true := fun w h => hts0 w (pw_tbl h)
  have hA : ∀ q : Nat, s.heap.size ≤ q → (fun q : Nat => s.heap.size ≤ q) q := fun _ h => h
  have hbA : ¬ (fun q : Nat => s.heap.size ≤ q) b := Nat.not_le.mpr hbl
  refine lv_aload_n hx hb dL_law_744 rfl (lv_at hl 4 rfl) ?_
  refine lv_aload_n hx hb dL_law_745 rfl (lv_at hl 5 rfl) ?_
  refine lv_iload hx hb dL_law_746 (lv_at hl 0 rfl) ?_
  refine lv_iconst (v := 1) hx hb dL_law_748 (by decide) ?_
  refine lv_iadd hx hb dL_law_749 ?_
  refine lv_numI (v := 1) (by decide) ?_
  refine va_sld hx hb hX hbl hbA hS (by unfold vp_in; decide) dL_law_750 ?_
  refine lv_aload_n hx hb dL_law_751 rfl (lv_at hl 5 rfl) ?_
  refine lv_iload hx hb dL_law_752 (lv_at hl 0 rfl) ?_
  refine lv_iconst (v := 2) hx hb dL_law_754 (by decide) ?_
  refine lv_iadd hx hb dL_law_755 ?_
  refine lv_numI (v := 2) (by decide) ?_
  refine va_sld hx hb hX hbl hbA hS (by unfold vp_in; decide) dL_law_756 ?_
  refine lv_if_eq (tgt := 764) hx hb dL_law_757 (by decide) (fun c_519 => ?_) (fun c_519 => ?_)
  · skip
    refine lv_iconst (v := 0) hx hb dL_law_764 (by decide) ?_
    refine lv_aload_n hx hb dL_law_765 rfl (lv_at hl 2 rfl) ?_
    have hPc := hP.sub (ws' := [(x, .inr (11, [.ref a1, .ref a2, .ref a3, .ref a4, .ref tt, .int 0, .ref rr, .ref cq])), (a2, .inr (4, [.int 0, .ref ed, .int 0]))]) [0, 2] rfl
    have hDc := hD.sub (ws' := [(x, .inr (11, [.ref a1, .ref a2, .ref a3, .ref a4, .ref tt, .int 0, .ref rr, .ref cq])), (a2, .inr (4, [.int 0, .ref ed, .int 0]))]) [0, 2] (by decide) rfl
    have hKc := hK.sub (tys' := []) [] rfl
    have hFc := va_free (wc := [(x, .inr (11, [.ref a1, .ref a2, .ref a3, .ref a4, .ref tt, .int 0, .ref rr, .ref cq])), (a2, .inr (4, [.int 0, .ref ed, .int 0]))]) hD hS hA [0, 2] rfl
    refine va_calli (vx_runSW (As := [.ref x, .int (xs (Int32.toNatClampNeg 1)), .int 0, .ref ou]) (rest := []) ⟨hx, hb, hml, hown, hts⟩ (w_setLoose l hl9 dC dI H.size ed x a2 (.ref a1) (.ref a3) (.ref a4) (.ref tt) (.int 0) (.ref rr) (.ref cq) (.int 0) (.ref ed) (xs (Int32.toNatClampNeg 1)) 0 ou) (vx_cwSW 4 hts (pw_S q687 q688 q42 q689) rfl rfl rfl (by decide +kernel) ⟨(Nat.le_of_ble_eq_true rfl), (Nat.le_of_ble_eq_true rfl)⟩) ⟨fun a U g mk q => by obtain ⟨q0, q1, qP, qK, qD, qZ⟩ := q; exact ⟨q0, q1, qP, va_K.moved (u := U) (U := U.calling g mk a) (Vm.Alike.refl U.vm) qK, qD, qZ.same rfl⟩, fun U hU hW => ⟨rfl, by rw [hU], by rw [hU]; exact hPc, va_K.moved hW.alike hKc, hDc.weaken (fun _ _ _ _ => trivial), hZ.call hS hFc hU hW⟩⟩ rfl rfl hl.1 rfl (lv_room (Nat.le_of_ble_eq_true rfl)) dL_law_766 ⟨(Nat.le_of_ble_eq_true rfl), (Nat.le_of_ble_eq_true rfl)⟩) hS (fun q _ h => hFc q h) hFc (fun r_520 u t H1 locs ht hvm hw hB hz1 hk1 hS => ?_)
    obtain ⟨hP1, hK1, hD1⟩ := hB
    rw [ht] at hP1
    have hK1 := va_K.moved hvm.symm hK1
    obtain ⟨hP, hD⟩ := va_join (wr := [(a1, .inr (4, [.int 0, .ref ed, .int 0])), (a3, .inr (4, [.int 0, .ref ed, .int 0])), (a4, .inr (4, [.int 0, .ref ed, .int 0])), (tt, .inl (cT, 24, .inl (fun _ => 0))), (rr, .inr (6, [.ref t1, .ref t2, .int 0, .int 0, .long 0, .long 0])), (mo, .inr (15, [.ref b1, .ref b2, .ref b3, .ref b4, .ref b5, .int 0])), (b1, .inr (4, [.int 0, .ref ed, .int 0])), (b2, .inr (4, [.int 0, .ref ed, .int 0])), (b3, .inr (4, [.int 0, .ref ed, .int 0])), (b4, .inr (4, [.int 0, .ref ed, .int 0])), (b5, .inr (4, [.int 0, .ref ed, .int 0])), (ou, .inl (cO, 1, .inr (.inl (fun _ => 0)))), (od, .inl (cD, 1, .inr (.inr (.inr (.inl (fun _ => 0))))))]) (w1 := [(x, .inr (11, [.ref a1, .ref a2, .ref a3, .ref a4, .ref tt, .int 0, .ref rr, .ref cq])), (a2, .inr (4, [.int 0, .ref ed, .int 0]))]) hP hD [0, 2] [1, 3, 4, 5, 6, 7, 8, 9, 10, 11, 12, 13, 14] rfl rfl (by decide) (by decide) hk1 hFc hP1 hD1
    have hK := (hK.sub (tys' := [(cT, .int), (cO, .long), (cD, .double)]) [0, 1, 2] rfl).app hK1
    generalize H1 = H at hP hS ⊢
    have hP : va_P (dC, dI) vwCl [(a1, .inr (4, [.int 0, .ref ed, .int 0])), (a3, .inr (4, [.int 0, .ref ed, .int 0])), (a4, .inr (4, [.int 0, .ref ed, .int 0])), (tt, .inl (cT, 24, .inl (fun _ => 0))), (rr, .inr (6, [.ref t1, .ref t2, .int 0, .int 0, .long 0, .long 0])), (mo, .inr (15, [.ref b1, .ref b2, .ref b3, .ref b4, .ref b5, .int 0])), (b1, .inr (4, [.int 0, .ref ed, .int 0])), (b2, .inr (4, [.int 0, .ref ed, .int 0])), (b3, .inr (4, [.int 0, .ref ed, .int 0])), (b4, .inr (4, [.int 0, .ref ed, .int 0])), (b5, .inr (4, [.int 0, .ref ed, .int 0])), (ou, .inl (cO, 1, .inr (.inl (fun _ => 0)))), (od, .inl (cD, 1, .inr (.inr (.inr (.inl (fun _ => 0)))))), (x, .inr (11, [.ref a1, .ref a2, .ref a3, .ref a4, .ref tt, .int 0, .ref rr, .ref cq])), (a2, .inr (4, [.int 0, .ref ed, .int 0]))] H := hP
    have hD : va_D (fun q : Nat => s.heap.size ≤ q) [(a1, .inr (4, [.int 0, .ref ed, .int 0])), (a3, .inr (4, [.int 0, .ref ed, .int 0])), (a4, .inr (4, [.int 0, .ref ed, .int 0])), (tt, .inl (cT, 24, .inl (fun _ => 0))), (rr, .inr (6, [.ref t1, .ref t2, .int 0, .int 0, .long 0, .long 0])), (mo, .inr (15, [.ref b1, .ref b2, .ref b3, .ref b4, .ref b5, .int 0])), (b1, .inr (4, [.int 0, .ref ed, .int 0])), (b2, .inr (4, [.int 0, .ref ed, .int 0])), (b3, .inr (4, [.int 0, .ref ed, .int 0])), (b4, .inr (4, [.int 0, .ref ed, .int 0])), (b5, .inr (4, [.int 0, .ref ed, .int 0])), (ou, .inl (cO, 1, .inr (.inl (fun _ => 0)))), (od, .inl (cD, 1, .inr (.inr (.inr (.inl (fun _ => 0)))))), (x, .inr (11, [.ref a1, .ref a2, .ref a3, .ref a4, .ref tt, .int 0, .ref rr, .ref cq])), (a2, .inr (4, [.int 0, .ref ed, .int 0]))] := hD
    have hK : va_K (dC, dI) vwCl [(cT, .int), (cO, .long), (cD, .double)] s := hK
    refine W.widen (k := 28) (n := 304) (Nat.le_of_ble_eq_true rfl) (Nat.le_of_ble_eq_true rfl) ?_
    have hw : r_520 = 1 := hw
    subst hw
    refine lv_istore (lv' := [(6, .int 1), (5, .int 0), (4, .ref od), (3, .ref ou), (2, .ref mo), (1, .ref x), (0, .ref b)]) hx hb dL_law_769 hl (by decide) rfl (fun ls hl => ?_)
    refine lv_aload_n hx hb dL_law_771 rfl (lv_at hl 4 rfl) ?_
    refine lv_aload_n hx hb dL_law_772 rfl (lv_at hl 6 rfl) ?_
    refine lv_iload hx hb dL_law_773 (lv_at hl 1 rfl) ?_
    refine lv_iconst (v := 1) hx hb dL_law_775 (by decide) ?_
    refine lv_iadd hx hb dL_law_776 ?_
    refine lv_numI (v := 1) (by decide) ?_
    refine va_sld hx hb hX hbl hbA hS (by unfold vp_in; decide) dL_law_777 ?_
    refine lv_aload_n hx hb dL_law_778 rfl (lv_at hl 6 rfl) ?_
    refine lv_iload hx hb dL_law_779 (lv_at hl 1 rfl) ?_
    refine lv_iconst (v := 2) hx hb dL_law_781 (by decide) ?_
    refine lv_iadd hx hb dL_law_782 ?_
    refine lv_numI (v := 2) (by decide) ?_
    refine va_sld hx hb hX hbl hbA hS (by unfold vp_in; decide) dL_law_783 ?_
    refine lv_if_eq (tgt := 791) hx hb dL_law_784 (by decide) (fun c_521 => ?_) (fun c_521 => absurd c_519 c_521)
    refine lv_iconst (v := 0) hx hb dL_law_791 (by decide) ?_
    have hPc := hP.sub (ws' := [(mo, .inr (15, [.ref b1, .ref b2, .ref b3, .ref b4, .ref b5, .int 0])), (b2, .inr (4, [.int 0, .ref ed, .int 0]))]) [5, 7] rfl
    have hDc := hD.sub (ws' := [(mo, .inr (15, [.ref b1, .ref b2, .ref b3, .ref b4, .ref b5, .int 0])), (b2, .inr (4, [.int 0, .ref ed, .int 0]))]) [5, 7] (by decide) rfl
    have hKc := hK.sub (tys' := []) [] rfl
    have hFc := va_free (wc := [(mo, .inr (15, [.ref b1, .ref b2, .ref b3, .ref b4, .ref b5, .int 0])), (b2, .inr (4, [.int 0, .ref ed, .int 0]))]) hD hS hA [5, 7] rfl
    refine va_calli (va_runV (As := [.int (xs (Int32.toNatClampNeg 1)), .int 0]) (rest := []) ⟨hx, hb, hml, hown, hts⟩ (y_setLoose l dC dI H.size mo b2 (.ref b1) (.ref b3) (.ref b4) (.ref b5) (.int 0) (.ref ed) 0 (xs (Int32.toNatClampNeg 1)) 0) (cwV 2 hts (pw_V q1406 q1407 q1408 q49 q1409) rfl rfl rfl (by decide +kernel) ⟨(Nat.le_of_ble_eq_true rfl), (Nat.le_of_ble_eq_true rfl)⟩) ⟨fun a U g mk q => by obtain ⟨q0, q1, qP, qK, qD⟩ := q; exact ⟨q0, q1, qP, va_K.moved (u := U) (U := U.calling g mk a) (Vm.Alike.refl U.vm) qK, qD⟩, va_recv hKc hPc (ci := 15) (q0 := 0) rfl rfl, fun U hU hW => ⟨rfl, by rw [hU], by rw [hU]; exact hPc, va_K.moved hW.alike hKc, hDc.weaken (fun _ _ _ _ => trivial)⟩⟩ rfl rfl hl.1 rfl (lv_room (Nat.le_of_ble_eq_true rfl)) dL_law_792 ⟨(Nat.le_of_ble_eq_true rfl), (Nat.le_of_ble_eq_true rfl)⟩) hS (fun q _ h => hFc q h) hFc (fun r_522 u t H1 locs ht hvm hw hB hz1 hk1 hS => ?_)
    obtain ⟨hP1, hK1, hD1⟩ := hB
    rw [ht] at hP1
    have hK1 := va_K.moved hvm.symm hK1
    obtain ⟨hP, hD⟩ := va_join (wr := [(a1, .inr (4, [.int 0, .ref ed, .int 0])), (a3, .inr (4, [.int 0, .ref ed, .int 0])), (a4, .inr (4, [.int 0, .ref ed, .int 0])), (tt, .inl (cT, 24, .inl (fun _ => 0))), (rr, .inr (6, [.ref t1, .ref t2, .int 0, .int 0, .long 0, .long 0])), (b1, .inr (4, [.int 0, .ref ed, .int 0])), (b3, .inr (4, [.int 0, .ref ed, .int 0])), (b4, .inr (4, [.int 0, .ref ed, .int 0])), (b5, .inr (4, [.int 0, .ref ed, .int 0])), (ou, .inl (cO, 1, .inr (.inl (fun _ => 0)))), (od, .inl (cD, 1, .inr (.inr (.inr (.inl (fun _ => 0)))))), (x, .inr (11, [.ref a1, .ref a2, .ref a3, .ref a4, .ref tt, .int 0, .ref rr, .ref cq])), (a2, .inr (4, [.int 0, .ref ed, .int 0]))]) (w1 := [(mo, .inr (15, [.ref b1, .ref b2, .ref b3, .ref b4, .ref b5, .int 1])), (b2, .inr (4, [.int 0, .ref ed, .int 0]))]) hP hD [5, 7] [0, 1, 2, 3, 4, 6, 8, 9, 10, 11, 12, 13, 14] rfl rfl (by decide) (by decide) hk1 hFc hP1 hD1
    have hK := (hK.sub (tys' := [(cT, .int), (cO, .long), (cD, .double)]) [0, 1, 2] rfl).app hK1
    generalize H1 = H at hP hS ⊢
    have hP : va_P (dC, dI) vwCl [(a1, .inr (4, [.int 0, .ref ed, .int 0])), (a3, .inr (4, [.int 0, .ref ed, .int 0])), (a4, .inr (4, [.int 0, .ref ed, .int 0])), (tt, .inl (cT, 24, .inl (fun _ => 0))), (rr, .inr (6, [.ref t1, .ref t2, .int 0, .int 0, .long 0, .long 0])), (b1, .inr (4, [.int 0, .ref ed, .int 0])), (b3, .inr (4, [.int 0, .ref ed, .int 0])), (b4, .inr (4, [.int 0, .ref ed, .int 0])), (b5, .inr (4, [.int 0, .ref ed, .int 0])), (ou, .inl (cO, 1, .inr (.inl (fun _ => 0)))), (od, .inl (cD, 1, .inr (.inr (.inr (.inl (fun _ => 0)))))), (x, .inr (11, [.ref a1, .ref a2, .ref a3, .ref a4, .ref tt, .int 0, .ref rr, .ref cq])), (a2, .inr (4, [.int 0, .ref ed, .int 0])), (mo, .inr (15, [.ref b1, .ref b2, .ref b3, .ref b4, .ref b5, .int 1])), (b2, .inr (4, [.int 0, .ref ed, .int 0]))] H := hP
    have hD : va_D (fun q : Nat => s.heap.size ≤ q) [(a1, .inr (4, [.int 0, .ref ed, .int 0])), (a3, .inr (4, [.int 0, .ref ed, .int 0])), (a4, .inr (4, [.int 0, .ref ed, .int 0])), (tt, .inl (cT, 24, .inl (fun _ => 0))), (rr, .inr (6, [.ref t1, .ref t2, .int 0, .int 0, .long 0, .long 0])), (b1, .inr (4, [.int 0, .ref ed, .int 0])), (b3, .inr (4, [.int 0, .ref ed, .int 0])), (b4, .inr (4, [.int 0, .ref ed, .int 0])), (b5, .inr (4, [.int 0, .ref ed, .int 0])), (ou, .inl (cO, 1, .inr (.inl (fun _ => 0)))), (od, .inl (cD, 1, .inr (.inr (.inr (.inl (fun _ => 0)))))), (x, .inr (11, [.ref a1, .ref a2, .ref a3, .ref a4, .ref tt, .int 0, .ref rr, .ref cq])), (a2, .inr (4, [.int 0, .ref ed, .int 0])), (mo, .inr (15, [.ref b1, .ref b2, .ref b3, .ref b4, .ref b5, .int 1])), (b2, .inr (4, [.int 0, .ref ed, .int 0]))] := hD
    have hK : va_K (dC, dI) vwCl [(cT, .int), (cO, .long), (cD, .double)] s := hK
    refine W.widen (k := 28) (n := 304) (Nat.le_of_ble_eq_true rfl) (Nat.le_of_ble_eq_true rfl) ?_
    have hw : r_522 = 0 := hw
    subst hw
    refine lv_istore (lv' := [(7, .int 0), (6, .int 1), (5, .int 0), (4, .ref od), (3, .ref ou), (2, .ref mo), (1, .ref x), (0, .ref b)]) hx hb dL_law_795 hl (by decide) rfl (fun ls hl => ?_)
    refine lv_aload_n hx hb dL_law_797 rfl (lv_at hl 5 rfl) ?_
    have hPc := hP.sub (ws' := [(mo, .inr (15, [.ref b1, .ref b2, .ref b3, .ref b4, .ref b5, .int 1]))]) [13] rfl
    have hDc := hD.sub (ws' := [(mo, .inr (15, [.ref b1, .ref b2, .ref b3, .ref b4, .ref b5, .int 1]))]) [13] (by decide) rfl
    have hKc := hK.sub (tys' := []) [] rfl
    have hFc := va_free (wc := [(mo, .inr (15, [.ref b1, .ref b2, .ref b3, .ref b4, .ref b5, .int 1]))]) hD hS hA [13] rfl
    refine va_calli (va_runV (As := []) (rest := []) ⟨hx, hb, hml, hown, hts⟩ (n_thrown l dC dI H.size mo (.ref b1) (.ref b2) (.ref b3) (.ref b4) (.ref b5) 1) (cwV 0 hts (pw_V q1244 q1245 q1246 q49 q1247) rfl rfl rfl (by decide +kernel) ⟨(Nat.le_of_ble_eq_true rfl), (Nat.le_of_ble_eq_true rfl)⟩) ⟨fun a U g mk q => by obtain ⟨q0, q1, qP, qK, qD⟩ := q; exact ⟨q0, q1, qP, va_K.moved (u := U) (U := U.calling g mk a) (Vm.Alike.refl U.vm) qK, qD⟩, va_recv hKc hPc (ci := 15) (q0 := 0) rfl rfl, fun U hU hW => ⟨rfl, by rw [hU], by rw [hU]; exact hPc, va_K.moved hW.alike hKc, hDc.weaken (fun _ _ _ _ => trivial)⟩⟩ rfl rfl hl.1 rfl (lv_room (Nat.le_of_ble_eq_true rfl)) dL_law_798 ⟨(Nat.le_of_ble_eq_true rfl), (Nat.le_of_ble_eq_true rfl)⟩) hS (fun q _ h => hFc q h) hFc (fun r_523 u t H1 locs ht hvm hw hB hz1 hk1 hS => ?_)
    obtain ⟨hP1, hK1, hD1⟩ := hB
    rw [ht] at hP1
    have hK1 := va_K.moved hvm.symm hK1
    obtain ⟨hP, hD⟩ := va_join (wr := [(a1, .inr (4, [.int 0, .ref ed, .int 0])), (a3, .inr (4, [.int 0, .ref ed, .int 0])), (a4, .inr (4, [.int 0, .ref ed, .int 0])), (tt, .inl (cT, 24, .inl (fun _ => 0))), (rr, .inr (6, [.ref t1, .ref t2, .int 0, .int 0, .long 0, .long 0])), (b1, .inr (4, [.int 0, .ref ed, .int 0])), (b3, .inr (4, [.int 0, .ref ed, .int 0])), (b4, .inr (4, [.int 0, .ref ed, .int 0])), (b5, .inr (4, [.int 0, .ref ed, .int 0])), (ou, .inl (cO, 1, .inr (.inl (fun _ => 0)))), (od, .inl (cD, 1, .inr (.inr (.inr (.inl (fun _ => 0)))))), (x, .inr (11, [.ref a1, .ref a2, .ref a3, .ref a4, .ref tt, .int 0, .ref rr, .ref cq])), (a2, .inr (4, [.int 0, .ref ed, .int 0])), (b2, .inr (4, [.int 0, .ref ed, .int 0]))]) (w1 := [(mo, .inr (15, [.ref b1, .ref b2, .ref b3, .ref b4, .ref b5, .int 1]))]) hP hD [13] [0, 1, 2, 3, 4, 5, 6, 7, 8, 9, 10, 11, 12, 14] rfl rfl (by decide) (by decide) hk1 hFc hP1 hD1
    have hK := (hK.sub (tys' := [(cT, .int), (cO, .long), (cD, .double)]) [0, 1, 2] rfl).app hK1
    generalize H1 = H at hP hS ⊢
    have hP : va_P (dC, dI) vwCl [(a1, .inr (4, [.int 0, .ref ed, .int 0])), (a3, .inr (4, [.int 0, .ref ed, .int 0])), (a4, .inr (4, [.int 0, .ref ed, .int 0])), (tt, .inl (cT, 24, .inl (fun _ => 0))), (rr, .inr (6, [.ref t1, .ref t2, .int 0, .int 0, .long 0, .long 0])), (b1, .inr (4, [.int 0, .ref ed, .int 0])), (b3, .inr (4, [.int 0, .ref ed, .int 0])), (b4, .inr (4, [.int 0, .ref ed, .int 0])), (b5, .inr (4, [.int 0, .ref ed, .int 0])), (ou, .inl (cO, 1, .inr (.inl (fun _ => 0)))), (od, .inl (cD, 1, .inr (.inr (.inr (.inl (fun _ => 0)))))), (x, .inr (11, [.ref a1, .ref a2, .ref a3, .ref a4, .ref tt, .int 0, .ref rr, .ref cq])), (a2, .inr (4, [.int 0, .ref ed, .int 0])), (b2, .inr (4, [.int 0, .ref ed, .int 0])), (mo, .inr (15, [.ref b1, .ref b2, .ref b3, .ref b4, .ref b5, .int 1]))] H := hP
    have hD : va_D (fun q : Nat => s.heap.size ≤ q) [(a1, .inr (4, [.int 0, .ref ed, .int 0])), (a3, .inr (4, [.int 0, .ref ed, .int 0])), (a4, .inr (4, [.int 0, .ref ed, .int 0])), (tt, .inl (cT, 24, .inl (fun _ => 0))), (rr, .inr (6, [.ref t1, .ref t2, .int 0, .int 0, .long 0, .long 0])), (b1, .inr (4, [.int 0, .ref ed, .int 0])), (b3, .inr (4, [.int 0, .ref ed, .int 0])), (b4, .inr (4, [.int 0, .ref ed, .int 0])), (b5, .inr (4, [.int 0, .ref ed, .int 0])), (ou, .inl (cO, 1, .inr (.inl (fun _ => 0)))), (od, .inl (cD, 1, .inr (.inr (.inr (.inl (fun _ => 0)))))), (x, .inr (11, [.ref a1, .ref a2, .ref a3, .ref a4, .ref tt, .int 0, .ref rr, .ref cq])), (a2, .inr (4, [.int 0, .ref ed, .int 0])), (b2, .inr (4, [.int 0, .ref ed, .int 0])), (mo, .inr (15, [.ref b1, .ref b2, .ref b3, .ref b4, .ref b5, .int 1]))] := hD
    have hK : va_K (dC, dI) vwCl [(cT, .int), (cO, .long), (cD, .double)] s := hK
    refine W.widen (k := 28) (n := 304) (Nat.le_of_ble_eq_true rfl) (Nat.le_of_ble_eq_true rfl) ?_
    have hw : r_523 = 1 := hw
    subst hw
    refine lv_iload hx hb dL_law_801 (lv_at hl 1 rfl) ?_
    refine lv_icmp_eq (tgt := 808) hx hb dL_law_803 (by decide) (fun c_524 => ?_) (fun c_524 => absurd (by decide) c_524)
    refine lv_iload hx hb dL_law_808 (lv_at hl 1 rfl) ?_
    refine lv_if_ne (tgt := 832) hx hb dL_law_810 (by decide) (fun c_525 => ?_) (fun c_525 => absurd c_525 (by decide))
    refine lv_goto (tgt := 3072) hx hb dL_law_832 (by decide) ?_
    refine W.widen (k := 100) (n := 1000) (Nat.le_of_ble_eq_true rfl) (Nat.le_of_ble_eq_true rfl) ?_
    exact law_tail l C0 hS (lv_sub hl [2, 7] rfl)
  · skip
    refine lv_iconst (v := 1) hx hb dL_law_760 (by decide) ?_
    refine lv_goto (tgt := 765) hx hb dL_law_761 (by decide) ?_
    refine lv_aload_n hx hb dL_law_765 rfl (lv_at hl 2 rfl) ?_
    have hPc := hP.sub (ws' := [(x, .inr (11, [.ref a1, .ref a2, .ref a3, .ref a4, .ref tt, .int 0, .ref rr, .ref cq])), (a2, .inr (4, [.int 0, .ref ed, .int 0]))]) [0, 2] rfl
    have hDc := hD.sub (ws' := [(x, .inr (11, [.ref a1, .ref a2, .ref a3, .ref a4, .ref tt, .int 0, .ref rr, .ref cq])), (a2, .inr (4, [.int 0, .ref ed, .int 0]))]) [0, 2] (by decide) rfl
    have hKc := hK.sub (tys' := []) [] rfl
    have hFc := va_free (wc := [(x, .inr (11, [.ref a1, .ref a2, .ref a3, .ref a4, .ref tt, .int 0, .ref rr, .ref cq])), (a2, .inr (4, [.int 0, .ref ed, .int 0]))]) hD hS hA [0, 2] rfl
    refine va_calli (vx_runSW (As := [.ref x, .int (xs (Int32.toNatClampNeg 1)), .int 1, .ref ou]) (rest := []) ⟨hx, hb, hml, hown, hts⟩ (w_setLoose l hl9 dC dI H.size ed x a2 (.ref a1) (.ref a3) (.ref a4) (.ref tt) (.int 0) (.ref rr) (.ref cq) (.int 0) (.ref ed) (xs (Int32.toNatClampNeg 1)) 1 ou) (vx_cwSW 4 hts (pw_S q687 q688 q42 q689) rfl rfl rfl (by decide +kernel) ⟨(Nat.le_of_ble_eq_true rfl), (Nat.le_of_ble_eq_true rfl)⟩) ⟨fun a U g mk q => by obtain ⟨q0, q1, qP, qK, qD, qZ⟩ := q; exact ⟨q0, q1, qP, va_K.moved (u := U) (U := U.calling g mk a) (Vm.Alike.refl U.vm) qK, qD, qZ.same rfl⟩, fun U hU hW => ⟨rfl, by rw [hU], by rw [hU]; exact hPc, va_K.moved hW.alike hKc, hDc.weaken (fun _ _ _ _ => trivial), hZ.call hS hFc hU hW⟩⟩ rfl rfl hl.1 rfl (lv_room (Nat.le_of_ble_eq_true rfl)) dL_law_766 ⟨(Nat.le_of_ble_eq_true rfl), (Nat.le_of_ble_eq_true rfl)⟩) hS (fun q _ h => hFc q h) hFc (fun r_526 u t H1 locs ht hvm hw hB hz1 hk1 hS => ?_)
    obtain ⟨hP1, hK1, hD1⟩ := hB
    rw [ht] at hP1
    have hK1 := va_K.moved hvm.symm hK1
    obtain ⟨hP, hD⟩ := va_join (wr := [(a1, .inr (4, [.int 0, .ref ed, .int 0])), (a3, .inr (4, [.int 0, .ref ed, .int 0])), (a4, .inr (4, [.int 0, .ref ed, .int 0])), (tt, .inl (cT, 24, .inl (fun _ => 0))), (rr, .inr (6, [.ref t1, .ref t2, .int 0, .int 0, .long 0, .long 0])), (mo, .inr (15, [.ref b1, .ref b2, .ref b3, .ref b4, .ref b5, .int 0])), (b1, .inr (4, [.int 0, .ref ed, .int 0])), (b2, .inr (4, [.int 0, .ref ed, .int 0])), (b3, .inr (4, [.int 0, .ref ed, .int 0])), (b4, .inr (4, [.int 0, .ref ed, .int 0])), (b5, .inr (4, [.int 0, .ref ed, .int 0])), (ou, .inl (cO, 1, .inr (.inl (fun _ => 0)))), (od, .inl (cD, 1, .inr (.inr (.inr (.inl (fun _ => 0))))))]) (w1 := [(x, .inr (11, [.ref a1, .ref a2, .ref a3, .ref a4, .ref tt, .int 0, .ref rr, .ref cq])), (a2, .inr (4, [.int 0, .ref ed, .int 0]))]) hP hD [0, 2] [1, 3, 4, 5, 6, 7, 8, 9, 10, 11, 12, 13, 14] rfl rfl (by decide) (by decide) hk1 hFc hP1 hD1
    have hK := (hK.sub (tys' := [(cT, .int), (cO, .long), (cD, .double)]) [0, 1, 2] rfl).app hK1
    generalize H1 = H at hP hS ⊢
    have hP : va_P (dC, dI) vwCl [(a1, .inr (4, [.int 0, .ref ed, .int 0])), (a3, .inr (4, [.int 0, .ref ed, .int 0])), (a4, .inr (4, [.int 0, .ref ed, .int 0])), (tt, .inl (cT, 24, .inl (fun _ => 0))), (rr, .inr (6, [.ref t1, .ref t2, .int 0, .int 0, .long 0, .long 0])), (mo, .inr (15, [.ref b1, .ref b2, .ref b3, .ref b4, .ref b5, .int 0])), (b1, .inr (4, [.int 0, .ref ed, .int 0])), (b2, .inr (4, [.int 0, .ref ed, .int 0])), (b3, .inr (4, [.int 0, .ref ed, .int 0])), (b4, .inr (4, [.int 0, .ref ed, .int 0])), (b5, .inr (4, [.int 0, .ref ed, .int 0])), (ou, .inl (cO, 1, .inr (.inl (fun _ => 0)))), (od, .inl (cD, 1, .inr (.inr (.inr (.inl (fun _ => 0)))))), (x, .inr (11, [.ref a1, .ref a2, .ref a3, .ref a4, .ref tt, .int 0, .ref rr, .ref cq])), (a2, .inr (4, [.int 0, .ref ed, .int 0]))] H := hP
    have hD : va_D (fun q : Nat => s.heap.size ≤ q) [(a1, .inr (4, [.int 0, .ref ed, .int 0])), (a3, .inr (4, [.int 0, .ref ed, .int 0])), (a4, .inr (4, [.int 0, .ref ed, .int 0])), (tt, .inl (cT, 24, .inl (fun _ => 0))), (rr, .inr (6, [.ref t1, .ref t2, .int 0, .int 0, .long 0, .long 0])), (mo, .inr (15, [.ref b1, .ref b2, .ref b3, .ref b4, .ref b5, .int 0])), (b1, .inr (4, [.int 0, .ref ed, .int 0])), (b2, .inr (4, [.int 0, .ref ed, .int 0])), (b3, .inr (4, [.int 0, .ref ed, .int 0])), (b4, .inr (4, [.int 0, .ref ed, .int 0])), (b5, .inr (4, [.int 0, .ref ed, .int 0])), (ou, .inl (cO, 1, .inr (.inl (fun _ => 0)))), (od, .inl (cD, 1, .inr (.inr (.inr (.inl (fun _ => 0)))))), (x, .inr (11, [.ref a1, .ref a2, .ref a3, .ref a4, .ref tt, .int 0, .ref rr, .ref cq])), (a2, .inr (4, [.int 0, .ref ed, .int 0]))] := hD
    have hK : va_K (dC, dI) vwCl [(cT, .int), (cO, .long), (cD, .double)] s := hK
    refine W.widen (k := 28) (n := 304) (Nat.le_of_ble_eq_true rfl) (Nat.le_of_ble_eq_true rfl) ?_
    have hw : r_526 = 1 := hw
    subst hw
    refine lv_istore (lv' := [(6, .int 1), (5, .int 0), (4, .ref od), (3, .ref ou), (2, .ref mo), (1, .ref x), (0, .ref b)]) hx hb dL_law_769 hl (by decide) rfl (fun ls hl => ?_)
    refine lv_aload_n hx hb dL_law_771 rfl (lv_at hl 4 rfl) ?_
    refine lv_aload_n hx hb dL_law_772 rfl (lv_at hl 6 rfl) ?_
    refine lv_iload hx hb dL_law_773 (lv_at hl 1 rfl) ?_
    refine lv_iconst (v := 1) hx hb dL_law_775 (by decide) ?_
    refine lv_iadd hx hb dL_law_776 ?_
    refine lv_numI (v := 1) (by decide) ?_
    refine va_sld hx hb hX hbl hbA hS (by unfold vp_in; decide) dL_law_777 ?_
    refine lv_aload_n hx hb dL_law_778 rfl (lv_at hl 6 rfl) ?_
    refine lv_iload hx hb dL_law_779 (lv_at hl 1 rfl) ?_
    refine lv_iconst (v := 2) hx hb dL_law_781 (by decide) ?_
    refine lv_iadd hx hb dL_law_782 ?_
    refine lv_numI (v := 2) (by decide) ?_
    refine va_sld hx hb hX hbl hbA hS (by unfold vp_in; decide) dL_law_783 ?_
    refine lv_if_eq (tgt := 791) hx hb dL_law_784 (by decide) (fun c_527 => absurd c_527 c_519) (fun c_527 => ?_)
    refine lv_iconst (v := 1) hx hb dL_law_787 (by decide) ?_
    refine lv_goto (tgt := 792) hx hb dL_law_788 (by decide) ?_
    have hPc := hP.sub (ws' := [(mo, .inr (15, [.ref b1, .ref b2, .ref b3, .ref b4, .ref b5, .int 0])), (b2, .inr (4, [.int 0, .ref ed, .int 0]))]) [5, 7] rfl
    have hDc := hD.sub (ws' := [(mo, .inr (15, [.ref b1, .ref b2, .ref b3, .ref b4, .ref b5, .int 0])), (b2, .inr (4, [.int 0, .ref ed, .int 0]))]) [5, 7] (by decide) rfl
    have hKc := hK.sub (tys' := []) [] rfl
    have hFc := va_free (wc := [(mo, .inr (15, [.ref b1, .ref b2, .ref b3, .ref b4, .ref b5, .int 0])), (b2, .inr (4, [.int 0, .ref ed, .int 0]))]) hD hS hA [5, 7] rfl
    refine va_calli (va_runV (As := [.int (xs (Int32.toNatClampNeg 1)), .int 1]) (rest := []) ⟨hx, hb, hml, hown, hts⟩ (y_setLoose l dC dI H.size mo b2 (.ref b1) (.ref b3) (.ref b4) (.ref b5) (.int 0) (.ref ed) 0 (xs (Int32.toNatClampNeg 1)) 1) (cwV 2 hts (pw_V q1406 q1407 q1408 q49 q1409) rfl rfl rfl (by decide +kernel) ⟨(Nat.le_of_ble_eq_true rfl), (Nat.le_of_ble_eq_true rfl)⟩) ⟨fun a U g mk q => by obtain ⟨q0, q1, qP, qK, qD⟩ := q; exact ⟨q0, q1, qP, va_K.moved (u := U) (U := U.calling g mk a) (Vm.Alike.refl U.vm) qK, qD⟩, va_recv hKc hPc (ci := 15) (q0 := 0) rfl rfl, fun U hU hW => ⟨rfl, by rw [hU], by rw [hU]; exact hPc, va_K.moved hW.alike hKc, hDc.weaken (fun _ _ _ _ => trivial)⟩⟩ rfl rfl hl.1 rfl (lv_room (Nat.le_of_ble_eq_true rfl)) dL_law_792 ⟨(Nat.le_of_ble_eq_true rfl), (Nat.le_of_ble_eq_true rfl)⟩) hS (fun q _ h => hFc q h) hFc (fun r_528 u t H1 locs ht hvm hw hB hz1 hk1 hS => ?_)
    obtain ⟨hP1, hK1, hD1⟩ := hB
    rw [ht] at hP1
    have hK1 := va_K.moved hvm.symm hK1
    obtain ⟨hP, hD⟩ := va_join (wr := [(a1, .inr (4, [.int 0, .ref ed, .int 0])), (a3, .inr (4, [.int 0, .ref ed, .int 0])), (a4, .inr (4, [.int 0, .ref ed, .int 0])), (tt, .inl (cT, 24, .inl (fun _ => 0))), (rr, .inr (6, [.ref t1, .ref t2, .int 0, .int 0, .long 0, .long 0])), (b1, .inr (4, [.int 0, .ref ed, .int 0])), (b3, .inr (4, [.int 0, .ref ed, .int 0])), (b4, .inr (4, [.int 0, .ref ed, .int 0])), (b5, .inr (4, [.int 0, .ref ed, .int 0])), (ou, .inl (cO, 1, .inr (.inl (fun _ => 0)))), (od, .inl (cD, 1, .inr (.inr (.inr (.inl (fun _ => 0)))))), (x, .inr (11, [.ref a1, .ref a2, .ref a3, .ref a4, .ref tt, .int 0, .ref rr, .ref cq])), (a2, .inr (4, [.int 0, .ref ed, .int 0]))]) (w1 := [(mo, .inr (15, [.ref b1, .ref b2, .ref b3, .ref b4, .ref b5, .int 1])), (b2, .inr (4, [.int 0, .ref ed, .int 0]))]) hP hD [5, 7] [0, 1, 2, 3, 4, 6, 8, 9, 10, 11, 12, 13, 14] rfl rfl (by decide) (by decide) hk1 hFc hP1 hD1
    have hK := (hK.sub (tys' := [(cT, .int), (cO, .long), (cD, .double)]) [0, 1, 2] rfl).app hK1
    generalize H1 = H at hP hS ⊢
    have hP : va_P (dC, dI) vwCl [(a1, .inr (4, [.int 0, .ref ed, .int 0])), (a3, .inr (4, [.int 0, .ref ed, .int 0])), (a4, .inr (4, [.int 0, .ref ed, .int 0])), (tt, .inl (cT, 24, .inl (fun _ => 0))), (rr, .inr (6, [.ref t1, .ref t2, .int 0, .int 0, .long 0, .long 0])), (b1, .inr (4, [.int 0, .ref ed, .int 0])), (b3, .inr (4, [.int 0, .ref ed, .int 0])), (b4, .inr (4, [.int 0, .ref ed, .int 0])), (b5, .inr (4, [.int 0, .ref ed, .int 0])), (ou, .inl (cO, 1, .inr (.inl (fun _ => 0)))), (od, .inl (cD, 1, .inr (.inr (.inr (.inl (fun _ => 0)))))), (x, .inr (11, [.ref a1, .ref a2, .ref a3, .ref a4, .ref tt, .int 0, .ref rr, .ref cq])), (a2, .inr (4, [.int 0, .ref ed, .int 0])), (mo, .inr (15, [.ref b1, .ref b2, .ref b3, .ref b4, .ref b5, .int 1])), (b2, .inr (4, [.int 0, .ref ed, .int 0]))] H := hP
    have hD : va_D (fun q : Nat => s.heap.size ≤ q) [(a1, .inr (4, [.int 0, .ref ed, .int 0])), (a3, .inr (4, [.int 0, .ref ed, .int 0])), (a4, .inr (4, [.int 0, .ref ed, .int 0])), (tt, .inl (cT, 24, .inl (fun _ => 0))), (rr, .inr (6, [.ref t1, .ref t2, .int 0, .int 0, .long 0, .long 0])), (b1, .inr (4, [.int 0, .ref ed, .int 0])), (b3, .inr (4, [.int 0, .ref ed, .int 0])), (b4, .inr (4, [.int 0, .ref ed, .int 0])), (b5, .inr (4, [.int 0, .ref ed, .int 0])), (ou, .inl (cO, 1, .inr (.inl (fun _ => 0)))), (od, .inl (cD, 1, .inr (.inr (.inr (.inl (fun _ => 0)))))), (x, .inr (11, [.ref a1, .ref a2, .ref a3, .ref a4, .ref tt, .int 0, .ref rr, .ref cq])), (a2, .inr (4, [.int 0, .ref ed, .int 0])), (mo, .inr (15, [.ref b1, .ref b2, .ref b3, .ref b4, .ref b5, .int 1])), (b2, .inr (4, [.int 0, .ref ed, .int 0]))] := hD
    have hK : va_K (dC, dI) vwCl [(cT, .int), (cO, .long), (cD, .double)] s := hK
    refine W.widen (k := 28) (n := 304) (Nat.le_of_ble_eq_true rfl) (Nat.le_of_ble_eq_true rfl) ?_
    have hw : r_528 = 0 := hw
    subst hw
    refine lv_istore (lv' := [(7, .int 0), (6, .int 1), (5, .int 0), (4, .ref od), (3, .ref ou), (2, .ref mo), (1, .ref x), (0, .ref b)]) hx hb dL_law_795 hl (by decide) rfl (fun ls hl => ?_)
    refine lv_aload_n hx hb dL_law_797 rfl (lv_at hl 5 rfl) ?_
    have hPc := hP.sub (ws' := [(mo, .inr (15, [.ref b1, .ref b2, .ref b3, .ref b4, .ref b5, .int 1]))]) [13] rfl
    have hDc := hD.sub (ws' := [(mo, .inr (15, [.ref b1, .ref b2, .ref b3, .ref b4, .ref b5, .int 1]))]) [13] (by decide) rfl
    have hKc := hK.sub (tys' := []) [] rfl
    have hFc := va_free (wc := [(mo, .inr (15, [.ref b1, .ref b2, .ref b3, .ref b4, .ref b5, .int 1]))]) hD hS hA [13] rfl
    refine va_calli (va_runV (As := []) (rest := []) ⟨hx, hb, hml, hown, hts⟩ (n_thrown l dC dI H.size mo (.ref b1) (.ref b2) (.ref b3) (.ref b4) (.ref b5) 1) (cwV 0 hts (pw_V q1244 q1245 q1246 q49 q1247) rfl rfl rfl (by decide +kernel) ⟨(Nat.le_of_ble_eq_true rfl), (Nat.le_of_ble_eq_true rfl)⟩) ⟨fun a U g mk q => by obtain ⟨q0, q1, qP, qK, qD⟩ := q; exact ⟨q0, q1, qP, va_K.moved (u := U) (U := U.calling g mk a) (Vm.Alike.refl U.vm) qK, qD⟩, va_recv hKc hPc (ci := 15) (q0 := 0) rfl rfl, fun U hU hW => ⟨rfl, by rw [hU], by rw [hU]; exact hPc, va_K.moved hW.alike hKc, hDc.weaken (fun _ _ _ _ => trivial)⟩⟩ rfl rfl hl.1 rfl (lv_room (Nat.le_of_ble_eq_true rfl)) dL_law_798 ⟨(Nat.le_of_ble_eq_true rfl), (Nat.le_of_ble_eq_true rfl)⟩) hS (fun q _ h => hFc q h) hFc (fun r_529 u t H1 locs ht hvm hw hB hz1 hk1 hS => ?_)
    obtain ⟨hP1, hK1, hD1⟩ := hB
    rw [ht] at hP1
    have hK1 := va_K.moved hvm.symm hK1
    obtain ⟨hP, hD⟩ := va_join (wr := [(a1, .inr (4, [.int 0, .ref ed, .int 0])), (a3, .inr (4, [.int 0, .ref ed, .int 0])), (a4, .inr (4, [.int 0, .ref ed, .int 0])), (tt, .inl (cT, 24, .inl (fun _ => 0))), (rr, .inr (6, [.ref t1, .ref t2, .int 0, .int 0, .long 0, .long 0])), (b1, .inr (4, [.int 0, .ref ed, .int 0])), (b3, .inr (4, [.int 0, .ref ed, .int 0])), (b4, .inr (4, [.int 0, .ref ed, .int 0])), (b5, .inr (4, [.int 0, .ref ed, .int 0])), (ou, .inl (cO, 1, .inr (.inl (fun _ => 0)))), (od, .inl (cD, 1, .inr (.inr (.inr (.inl (fun _ => 0)))))), (x, .inr (11, [.ref a1, .ref a2, .ref a3, .ref a4, .ref tt, .int 0, .ref rr, .ref cq])), (a2, .inr (4, [.int 0, .ref ed, .int 0])), (b2, .inr (4, [.int 0, .ref ed, .int 0]))]) (w1 := [(mo, .inr (15, [.ref b1, .ref b2, .ref b3, .ref b4, .ref b5, .int 1]))]) hP hD [13] [0, 1, 2, 3, 4, 5, 6, 7, 8, 9, 10, 11, 12, 14] rfl rfl (by decide) (by decide) hk1 hFc hP1 hD1
    have hK := (hK.sub (tys' := [(cT, .int), (cO, .long), (cD, .double)]) [0, 1, 2] rfl).app hK1
    generalize H1 = H at hP hS ⊢
    have hP : va_P (dC, dI) vwCl [(a1, .inr (4, [.int 0, .ref ed, .int 0])), (a3, .inr (4, [.int 0, .ref ed, .int 0])), (a4, .inr (4, [.int 0, .ref ed, .int 0])), (tt, .inl (cT, 24, .inl (fun _ => 0))), (rr, .inr (6, [.ref t1, .ref t2, .int 0, .int 0, .long 0, .long 0])), (b1, .inr (4, [.int 0, .ref ed, .int 0])), (b3, .inr (4, [.int 0, .ref ed, .int 0])), (b4, .inr (4, [.int 0, .ref ed, .int 0])), (b5, .inr (4, [.int 0, .ref ed, .int 0])), (ou, .inl (cO, 1, .inr (.inl (fun _ => 0)))), (od, .inl (cD, 1, .inr (.inr (.inr (.inl (fun _ => 0)))))), (x, .inr (11, [.ref a1, .ref a2, .ref a3, .ref a4, .ref tt, .int 0, .ref rr, .ref cq])), (a2, .inr (4, [.int 0, .ref ed, .int 0])), (b2, .inr (4, [.int 0, .ref ed, .int 0])), (mo, .inr (15, [.ref b1, .ref b2, .ref b3, .ref b4, .ref b5, .int 1]))] H := hP
    have hD : va_D (fun q : Nat => s.heap.size ≤ q) [(a1, .inr (4, [.int 0, .ref ed, .int 0])), (a3, .inr (4, [.int 0, .ref ed, .int 0])), (a4, .inr (4, [.int 0, .ref ed, .int 0])), (tt, .inl (cT, 24, .inl (fun _ => 0))), (rr, .inr (6, [.ref t1, .ref t2, .int 0, .int 0, .long 0, .long 0])), (b1, .inr (4, [.int 0, .ref ed, .int 0])), (b3, .inr (4, [.int 0, .ref ed, .int 0])), (b4, .inr (4, [.int 0, .ref ed, .int 0])), (b5, .inr (4, [.int 0, .ref ed, .int 0])), (ou, .inl (cO, 1, .inr (.inl (fun _ => 0)))), (od, .inl (cD, 1, .inr (.inr (.inr (.inl (fun _ => 0)))))), (x, .inr (11, [.ref a1, .ref a2, .ref a3, .ref a4, .ref tt, .int 0, .ref rr, .ref cq])), (a2, .inr (4, [.int 0, .ref ed, .int 0])), (b2, .inr (4, [.int 0, .ref ed, .int 0])), (mo, .inr (15, [.ref b1, .ref b2, .ref b3, .ref b4, .ref b5, .int 1]))] := hD
    have hK : va_K (dC, dI) vwCl [(cT, .int), (cO, .long), (cD, .double)] s := hK
    refine W.widen (k := 28) (n := 304) (Nat.le_of_ble_eq_true rfl) (Nat.le_of_ble_eq_true rfl) ?_
    have hw : r_529 = 1 := hw
    subst hw
    refine lv_iload hx hb dL_law_801 (lv_at hl 1 rfl) ?_
    refine lv_icmp_eq (tgt := 808) hx hb dL_law_803 (by decide) (fun c_530 => ?_) (fun c_530 => absurd (by decide) c_530)
    refine lv_iload hx hb dL_law_808 (lv_at hl 1 rfl) ?_
    refine lv_if_ne (tgt := 832) hx hb dL_law_810 (by decide) (fun c_531 => ?_) (fun c_531 => absurd c_531 (by decide))
    refine lv_goto (tgt := 3072) hx hb dL_law_832 (by decide) ?_
    refine W.widen (k := 100) (n := 1000) (Nat.le_of_ble_eq_true rfl) (Nat.le_of_ble_eq_true rfl) ?_
    exact law_tail l C0 hS (lv_sub hl [2, 7] rfl)
set_option maxHeartbeats 4000000 in
set_option maxRecDepth 100000 in
theorem law_case_8 {p : Program} {e : Env} {s : State} {m : MethodId} {below : List Frame} {meth : Method} {c : Code} (l : Launch) (hl9 : l.stackTraces = false) (dC : Nat → ClassId) (dI : Nat → Nat → Nat) (ed : Nat) {b : Nat} {xs : Nat → Int32} (C0 : lw_At p s m meth c b 5 xs) (hZ : pz ed (fun q : Nat => s.heap.size ≤ q) s s.heap) (x a1 a2 a3 a4 tt rr cq t1 t2 mo b1 b2 b3 b4 b5 ou od : Nat) (cT cO cD : ClassId) {H : Heap} {locs : List Loc} (hK : va_K (dC, dI) vwCl [(cT, .int), (cO, .long), (cD, .double)] s) (hP : va_P (dC, dI) vwCl [(x, .inr (11, [.ref a1, .ref a2, .ref a3, .ref a4, .ref tt, .int 0, .ref rr, .ref cq])), (a1, .inr (4, [.int 0, .ref ed, .int 0])), (a2, .inr (4, [.int 0, .ref ed, .int 0])), (a3, .inr (4, [.int 0, .ref ed, .int 0])), (a4, .inr (4, [.int 0, .ref ed, .int 0])), (tt, .inl (cT, 24, .inl (fun _ => 0))), (rr, .inr (6, [.ref t1, .ref t2, .int 0, .int 0, .long 0, .long 0])), (mo, .inr (15, [.ref b1, .ref b2, .ref b3, .ref b4, .ref b5, .int 0])), (b1, .inr (4, [.int 0, .ref ed, .int 0])), (b2, .inr (4, [.int 0, .ref ed, .int 0])), (b3, .inr (4, [.int 0, .ref ed, .int 0])), (b4, .inr (4, [.int 0, .ref ed, .int 0])), (b5, .inr (4, [.int 0, .ref ed, .int 0])), (ou, .inl (cO, 1, .inr (.inl (fun _ => 0)))), (od, .inl (cD, 1, .inr (.inr (.inr (.inl (fun _ => 0))))))] H) (hD : va_D (fun q : Nat => s.heap.size ≤ q) [(x, .inr (11, [.ref a1, .ref a2, .ref a3, .ref a4, .ref tt, .int 0, .ref rr, .ref cq])), (a1, .inr (4, [.int 0, .ref ed, .int 0])), (a2, .inr (4, [.int 0, .ref ed, .int 0])), (a3, .inr (4, [.int 0, .ref ed, .int 0])), (a4, .inr (4, [.int 0, .ref ed, .int 0])), (tt, .inl (cT, 24, .inl (fun _ => 0))), (rr, .inr (6, [.ref t1, .ref t2, .int 0, .int 0, .long 0, .long 0])), (mo, .inr (15, [.ref b1, .ref b2, .ref b3, .ref b4, .ref b5, .int 0])), (b1, .inr (4, [.int 0, .ref ed, .int 0])), (b2, .inr (4, [.int 0, .ref ed, .int 0])), (b3, .inr (4, [.int 0, .ref ed, .int 0])), (b4, .inr (4, [.int 0, .ref ed, .int 0])), (b5, .inr (4, [.int 0, .ref ed, .int 0])), (ou, .inl (cO, 1, .inr (.inl (fun _ => 0)))), (od, .inl (cD, 1, .inr (.inr (.inr (.inl (fun _ => 0))))))]) (hS : va_S (fun q : Nat => s.heap.size ≤ q) s.heap H locs) {ls : Array Slot} (hl : lv_has ls 9 [(5, .int 0), (4, .ref od), (3, .ref ou), (2, .ref mo), (1, .ref x), (0, .ref b)]) : W p l e room_1 s m #[Value.ref b] below meth c H locs 27 298 (lw_Z below #[Value.ref b] s) (F0 m 835 ls []) := by
  obtain ⟨hx, hb, hr, hml, hown, hts0, hX, hbl, hlocks, hgv⟩ := id C0
  have hts : ∀ w ∈ pw_all, w.before #[Value.ref b] s = true := fun w h => hts0 w (pw_tbl h)
  have hA : ∀ q : Nat, s.heap.size ≤ q → (fun q : Nat => s.heap.size ≤ q) q := fun _ h => h
  have hbA : ¬ (fun q : Nat => s.heap.size ≤ q) b := Nat.not_le.mpr hbl
  refine lv_aload_n hx hb dL_law_835 rfl (lv_at hl 4 rfl) ?_
  refine lv_aload_n hx hb dL_law_836 rfl (lv_at hl 5 rfl) ?_
  refine lv_iload hx hb dL_law_837 (lv_at hl 0 rfl) ?_
  refine lv_iconst (v := 1) hx hb dL_law_839 (by decide) ?_
  refine lv_iadd hx hb dL_law_840 ?_
  refine lv_numI (v := 1) (by decide) ?_
  refine va_sld hx hb hX hbl hbA hS (by unfold vp_in; decide) dL_law_841 ?_
  refine lv_aload_n hx hb dL_law_842 rfl (lv_at hl 5 rfl) ?_
  refine lv_iload hx hb dL_law_843 (lv_at hl 0 rfl) ?_
  refine lv_iconst (v := 2) hx hb dL_law_845 (by decide) ?_
  refine lv_iadd hx hb dL_law_846 ?_
  refine lv_numI (v := 2) (by decide) ?_
  refine va_sld hx hb hX hbl hbA hS (by unfold vp_in; decide) dL_law_847 ?_
  refine lv_aload_n hx hb dL_law_848 rfl (lv_at hl 2 rfl) ?_
  have hPc := hP.sub (ws' := [(x, .inr (11, [.ref a1, .ref a2, .ref a3, .ref a4, .ref tt, .int 0, .ref rr, .ref cq])), (a2, .inr (4, [.int 0, .ref ed, .int 0]))]) [0, 2] rfl
  have hDc := hD.sub (ws' := [(x, .inr (11, [.ref a1, .ref a2, .ref a3, .ref a4, .ref tt, .int 0, .ref rr, .ref cq])), (a2, .inr (4, [.int 0, .ref ed, .int 0]))]) [0, 2] (by decide) rfl
  have hKc := hK.sub (tys' := []) [] rfl
  have hFc := va_free (wc := [(x, .inr (11, [.ref a1, .ref a2, .ref a3, .ref a4, .ref tt, .int 0, .ref rr, .ref cq])), (a2, .inr (4, [.int 0, .ref ed, .int 0]))]) hD hS hA [0, 2] rfl
  refine va_calli (vx_runSW (As := [.ref x, .int (xs (Int32.toNatClampNeg 1)), .int (xs (Int32.toNatClampNeg 2)), .ref ou]) (rest := []) ⟨hx, hb, hml, hown, hts⟩ (w_read l hl9 dC dI H.size ed x a2 (.ref a1) (.ref a3) (.ref a4) (.ref tt) (.int 0) (.ref rr) (.ref cq) (.int 0) (.ref ed) (xs (Int32.toNatClampNeg 1)) (xs (Int32.toNatClampNeg 2)) ou) (vx_cwSW 4 hts (pw_S q699 q700 q42 q701) rfl rfl rfl (by decide +kernel) ⟨(Nat.le_of_ble_eq_true rfl), (Nat.le_of_ble_eq_true rfl)⟩) ⟨fun a U g mk q => by obtain ⟨q0, q1, qP, qK, qD, qZ⟩ := q; exact ⟨q0, q1, qP, va_K.moved (u := U) (U := U.calling g mk a) (Vm.Alike.refl U.vm) qK, qD, qZ.same rfl⟩, fun U hU hW => ⟨rfl, by rw [hU], by rw [hU]; exact hPc, va_K.moved hW.alike hKc, hDc.weaken (fun _ _ _ _ => trivial), hZ.call hS hFc hU hW⟩⟩ rfl rfl hl.1 rfl (lv_room (Nat.le_of_ble_eq_true rfl)) dL_law_849 ⟨(Nat.le_of_ble_eq_true rfl), (Nat.le_of_ble_eq_true rfl)⟩) hS (fun q _ h => hFc q h) hFc (fun r_532 u t H1 locs ht hvm hw hB hz1 hk1 hS => ?_)
  obtain ⟨hP1, hK1, hD1⟩ := hB
  rw [ht] at hP1
  have hK1 := va_K.moved hvm.symm hK1
  obtain ⟨hP, hD⟩ := va_join (wr := [(a1, .inr (4, [.int 0, .ref ed, .int 0])), (a3, .inr (4, [.int 0, .ref ed, .int 0])), (a4, .inr (4, [.int 0, .ref ed, .int 0])), (tt, .inl (cT, 24, .inl (fun _ => 0))), (rr, .inr (6, [.ref t1, .ref t2, .int 0, .int 0, .long 0, .long 0])), (mo, .inr (15, [.ref b1, .ref b2, .ref b3, .ref b4, .ref b5, .int 0])), (b1, .inr (4, [.int 0, .ref ed, .int 0])), (b2, .inr (4, [.int 0, .ref ed, .int 0])), (b3, .inr (4, [.int 0, .ref ed, .int 0])), (b4, .inr (4, [.int 0, .ref ed, .int 0])), (b5, .inr (4, [.int 0, .ref ed, .int 0])), (ou, .inl (cO, 1, .inr (.inl (fun _ => 0)))), (od, .inl (cD, 1, .inr (.inr (.inr (.inl (fun _ => 0))))))]) (w1 := [(x, .inr (11, [.ref a1, .ref a2, .ref a3, .ref a4, .ref tt, .int 0, .ref rr, .ref cq])), (a2, .inr (4, [.int 0, .ref ed, .int 0]))]) hP hD [0, 2] [1, 3, 4, 5, 6, 7, 8, 9, 10, 11, 12, 13, 14] rfl rfl (by decide) (by decide) hk1 hFc hP1 hD1
  have hK := (hK.sub (tys' := [(cT, .int), (cO, .long), (cD, .double)]) [0, 1, 2] rfl).app hK1
  generalize H1 = H at hP hS ⊢
  have hP : va_P (dC, dI) vwCl [(a1, .inr (4, [.int 0, .ref ed, .int 0])), (a3, .inr (4, [.int 0, .ref ed, .int 0])), (a4, .inr (4, [.int 0, .ref ed, .int 0])), (tt, .inl (cT, 24, .inl (fun _ => 0))), (rr, .inr (6, [.ref t1, .ref t2, .int 0, .int 0, .long 0, .long 0])), (mo, .inr (15, [.ref b1, .ref b2, .ref b3, .ref b4, .ref b5, .int 0])), (b1, .inr (4, [.int 0, .ref ed, .int 0])), (b2, .inr (4, [.int 0, .ref ed, .int 0])), (b3, .inr (4, [.int 0, .ref ed, .int 0])), (b4, .inr (4, [.int 0, .ref ed, .int 0])), (b5, .inr (4, [.int 0, .ref ed, .int 0])), (ou, .inl (cO, 1, .inr (.inl (fun _ => 0)))), (od, .inl (cD, 1, .inr (.inr (.inr (.inl (fun _ => 0)))))), (x, .inr (11, [.ref a1, .ref a2, .ref a3, .ref a4, .ref tt, .int 0, .ref rr, .ref cq])), (a2, .inr (4, [.int 0, .ref ed, .int 0]))] H := hP
  have hD : va_D (fun q : Nat => s.heap.size ≤ q) [(a1, .inr (4, [.int 0, .ref ed, .int 0])), (a3, .inr (4, [.int 0, .ref ed, .int 0])), (a4, .inr (4, [.int 0, .ref ed, .int 0])), (tt, .inl (cT, 24, .inl (fun _ => 0))), (rr, .inr (6, [.ref t1, .ref t2, .int 0, .int 0, .long 0, .long 0])), (mo, .inr (15, [.ref b1, .ref b2, .ref b3, .ref b4, .ref b5, .int 0])), (b1, .inr (4, [.int 0, .ref ed, .int 0])), (b2, .inr (4, [.int 0, .ref ed, .int 0])), (b3, .inr (4, [.int 0, .ref ed, .int 0])), (b4, .inr (4, [.int 0, .ref ed, .int 0])), (b5, .inr (4, [.int 0, .ref ed, .int 0])), (ou, .inl (cO, 1, .inr (.inl (fun _ => 0)))), (od, .inl (cD, 1, .inr (.inr (.inr (.inl (fun _ => 0)))))), (x, .inr (11, [.ref a1, .ref a2, .ref a3, .ref a4, .ref tt, .int 0, .ref rr, .ref cq])), (a2, .inr (4, [.int 0, .ref ed, .int 0]))] := hD
  have hK : va_K (dC, dI) vwCl [(cT, .int), (cO, .long), (cD, .double)] s := hK
  refine W.widen (k := 28) (n := 304) (Nat.le_of_ble_eq_true rfl) (Nat.le_of_ble_eq_true rfl) ?_
  have hw : r_532 = 1 := hw
  subst hw
  refine lv_istore (lv' := [(6, .int 1), (5, .int 0), (4, .ref od), (3, .ref ou), (2, .ref mo), (1, .ref x), (0, .ref b)]) hx hb dL_law_852 hl (by decide) rfl (fun ls hl => ?_)
  refine lv_aload_n hx hb dL_law_854 rfl (lv_at hl 4 rfl) ?_
  refine lv_aload_n hx hb dL_law_855 rfl (lv_at hl 6 rfl) ?_
  refine lv_iload hx hb dL_law_856 (lv_at hl 1 rfl) ?_
  refine lv_iconst (v := 1) hx hb dL_law_858 (by decide) ?_
  refine lv_iadd hx hb dL_law_859 ?_
  refine lv_numI (v := 1) (by decide) ?_
  refine va_sld hx hb hX hbl hbA hS (by unfold vp_in; decide) dL_law_860 ?_
  refine lv_aload_n hx hb dL_law_861 rfl (lv_at hl 6 rfl) ?_
  refine lv_iload hx hb dL_law_862 (lv_at hl 1 rfl) ?_
  refine lv_iconst (v := 2) hx hb dL_law_864 (by decide) ?_
  refine lv_iadd hx hb dL_law_865 ?_
  refine lv_numI (v := 2) (by decide) ?_
  refine va_sld hx hb hX hbl hbA hS (by unfold vp_in; decide) dL_law_866 ?_
  have hPc := hP.sub (ws' := [(mo, .inr (15, [.ref b1, .ref b2, .ref b3, .ref b4, .ref b5, .int 0])), (b2, .inr (4, [.int 0, .ref ed, .int 0]))]) [5, 7] rfl
  have hDc := hD.sub (ws' := [(mo, .inr (15, [.ref b1, .ref b2, .ref b3, .ref b4, .ref b5, .int 0])), (b2, .inr (4, [.int 0, .ref ed, .int 0]))]) [5, 7] (by decide) rfl
  have hKc := hK.sub (tys' := []) [] rfl
  have hFc := va_free (wc := [(mo, .inr (15, [.ref b1, .ref b2, .ref b3, .ref b4, .ref b5, .int 0])), (b2, .inr (4, [.int 0, .ref ed, .int 0]))]) hD hS hA [5, 7] rfl
  refine va_calli (va_runV (As := [.int (xs (Int32.toNatClampNeg 1)), .int (xs (Int32.toNatClampNeg 2))]) (rest := []) ⟨hx, hb, hml, hown, hts⟩ (y_read l dC dI H.size mo b2 (.ref b1) (.ref b3) (.ref b4) (.ref b5) (.int 0) (.ref ed) 0 (xs (Int32.toNatClampNeg 1)) (xs (Int32.toNatClampNeg 2))) (cwV 2 hts (pw_V q1414 q1415 q1416 q49 q1417) rfl rfl rfl (by decide +kernel) ⟨(Nat.le_of_ble_eq_true rfl), (Nat.le_of_ble_eq_true rfl)⟩) ⟨fun a U g mk q => by obtain ⟨q0, q1, qP, qK, qD⟩ := q; exact ⟨q0, q1, qP, va_K.moved (u := U) (U := U.calling g mk a) (Vm.Alike.refl U.vm) qK, qD⟩, va_recv hKc hPc (ci := 15) (q0 := 0) rfl rfl, fun U hU hW => ⟨rfl, by rw [hU], by rw [hU]; exact hPc, va_K.moved hW.alike hKc, hDc.weaken (fun _ _ _ _ => trivial)⟩⟩ rfl rfl hl.1 rfl (lv_room (Nat.le_of_ble_eq_true rfl)) dL_law_867 ⟨(Nat.le_of_ble_eq_true rfl), (Nat.le_of_ble_eq_true rfl)⟩) hS (fun q _ h => hFc q h) hFc (fun r_533 u t H1 locs ht hvm hw hB hz1 hk1 hS => ?_)
  obtain ⟨hP1, hK1, hD1⟩ := hB
  rw [ht] at hP1
  have hK1 := va_K.moved hvm.symm hK1
  obtain ⟨hP, hD⟩ := va_join (wr := [(a1, .inr (4, [.int 0, .ref ed, .int 0])), (a3, .inr (4, [.int 0, .ref ed, .int 0])), (a4, .inr (4, [.int 0, .ref ed, .int 0])), (tt, .inl (cT, 24, .inl (fun _ => 0))), (rr, .inr (6, [.ref t1, .ref t2, .int 0, .int 0, .long 0, .long 0])), (b1, .inr (4, [.int 0, .ref ed, .int 0])), (b3, .inr (4, [.int 0, .ref ed, .int 0])), (b4, .inr (4, [.int 0, .ref ed, .int 0])), (b5, .inr (4, [.int 0, .ref ed, .int 0])), (ou, .inl (cO, 1, .inr (.inl (fun _ => 0)))), (od, .inl (cD, 1, .inr (.inr (.inr (.inl (fun _ => 0)))))), (x, .inr (11, [.ref a1, .ref a2, .ref a3, .ref a4, .ref tt, .int 0, .ref rr, .ref cq])), (a2, .inr (4, [.int 0, .ref ed, .int 0]))]) (w1 := [(mo, .inr (15, [.ref b1, .ref b2, .ref b3, .ref b4, .ref b5, .int 1])), (b2, .inr (4, [.int 0, .ref ed, .int 0]))]) hP hD [5, 7] [0, 1, 2, 3, 4, 6, 8, 9, 10, 11, 12, 13, 14] rfl rfl (by decide) (by decide) hk1 hFc hP1 hD1
  have hK := (hK.sub (tys' := [(cT, .int), (cO, .long), (cD, .double)]) [0, 1, 2] rfl).app hK1
  generalize H1 = H at hP hS ⊢
  have hP : va_P (dC, dI) vwCl [(a1, .inr (4, [.int 0, .ref ed, .int 0])), (a3, .inr (4, [.int 0, .ref ed, .int 0])), (a4, .inr (4, [.int 0, .ref ed, .int 0])), (tt, .inl (cT, 24, .inl (fun _ => 0))), (rr, .inr (6, [.ref t1, .ref t2, .int 0, .int 0, .long 0, .long 0])), (b1, .inr (4, [.int 0, .ref ed, .int 0])), (b3, .inr (4, [.int 0, .ref ed, .int 0])), (b4, .inr (4, [.int 0, .ref ed, .int 0])), (b5, .inr (4, [.int 0, .ref ed, .int 0])), (ou, .inl (cO, 1, .inr (.inl (fun _ => 0)))), (od, .inl (cD, 1, .inr (.inr (.inr (.inl (fun _ => 0)))))), (x, .inr (11, [.ref a1, .ref a2, .ref a3, .ref a4, .ref tt, .int 0, .ref rr, .ref cq])), (a2, .inr (4, [.int 0, .ref ed, .int 0])), (mo, .inr (15, [.ref b1, .ref b2, .ref b3, .ref b4, .ref b5, .int 1])), (b2, .inr (4, [.int 0, .ref ed, .int 0]))] H := hP
  have hD : va_D (fun q : Nat => s.heap.size ≤ q) [(a1, .inr (4, [.int 0, .ref ed, .int 0])), (a3, .inr (4, [.int 0, .ref ed, .int 0])), (a4, .inr (4, [.int 0, .ref ed, .int 0])), (tt, .inl (cT, 24, .inl (fun _ => 0))), (rr, .inr (6, [.ref t1, .ref t2, .int 0, .int 0, .long 0, .long 0])), (b1, .inr (4, [.int 0, .ref ed, .int 0])), (b3, .inr (4, [.int 0, .ref ed, .int 0])), (b4, .inr (4, [.int 0, .ref ed, .int 0])), (b5, .inr (4, [.int 0, .ref ed, .int 0])), (ou, .inl (cO, 1, .inr (.inl (fun _ => 0)))), (od, .inl (cD, 1, .inr (.inr (.inr (.inl (fun _ => 0)))))), (x, .inr (11, [.ref a1, .ref a2, .ref a3, .ref a4, .ref tt, .int 0, .ref rr, .ref cq])), (a2, .inr (4, [.int 0, .ref ed, .int 0])), (mo, .inr (15, [.ref b1, .ref b2, .ref b3, .ref b4, .ref b5, .int 1])), (b2, .inr (4, [.int 0, .ref ed, .int 0]))] := hD
  have hK : va_K (dC, dI) vwCl [(cT, .int), (cO, .long), (cD, .double)] s := hK
  refine W.widen (k := 28) (n := 304) (Nat.le_of_ble_eq_true rfl) (Nat.le_of_ble_eq_true rfl) ?_
  have hw : r_533 = 0 := hw
  subst hw
  refine lv_istore (lv' := [(7, .int 0), (6, .int 1), (5, .int 0), (4, .ref od), (3, .ref ou), (2, .ref mo), (1, .ref x), (0, .ref b)]) hx hb dL_law_870 hl (by decide) rfl (fun ls hl => ?_)
  refine lv_aload_n hx hb dL_law_872 rfl (lv_at hl 5 rfl) ?_
  have hPc := hP.sub (ws' := [(mo, .inr (15, [.ref b1, .ref b2, .ref b3, .ref b4, .ref b5, .int 1]))]) [13] rfl
  have hDc := hD.sub (ws' := [(mo, .inr (15, [.ref b1, .ref b2, .ref b3, .ref b4, .ref b5, .int 1]))]) [13] (by decide) rfl
  have hKc := hK.sub (tys' := []) [] rfl
  have hFc := va_free (wc := [(mo, .inr (15, [.ref b1, .ref b2, .ref b3, .ref b4, .ref b5, .int 1]))]) hD hS hA [13] rfl
  refine va_calli (va_runV (As := []) (rest := []) ⟨hx, hb, hml, hown, hts⟩ (n_thrown l dC dI H.size mo (.ref b1) (.ref b2) (.ref b3) (.ref b4) (.ref b5) 1) (cwV 0 hts (pw_V q1244 q1245 q1246 q49 q1247) rfl rfl rfl (by decide +kernel) ⟨(Nat.le_of_ble_eq_true rfl), (Nat.le_of_ble_eq_true rfl)⟩) ⟨fun a U g mk q => by obtain ⟨q0, q1, qP, qK, qD⟩ := q; exact ⟨q0, q1, qP, va_K.moved (u := U) (U := U.calling g mk a) (Vm.Alike.refl U.vm) qK, qD⟩, va_recv hKc hPc (ci := 15) (q0 := 0) rfl rfl, fun U hU hW => ⟨rfl, by rw [hU], by rw [hU]; exact hPc, va_K.moved hW.alike hKc, hDc.weaken (fun _ _ _ _ => trivial)⟩⟩ rfl rfl hl.1 rfl (lv_room (Nat.le_of_ble_eq_true rfl)) dL_law_873 ⟨(Nat.le_of_ble_eq_true rfl), (Nat.le_of_ble_eq_true rfl)⟩) hS (fun q _ h => hFc q h) hFc (fun r_534 u t H1 locs ht hvm hw hB hz1 hk1 hS => ?_)
  obtain ⟨hP1, hK1, hD1⟩ := hB
  rw [ht] at hP1
  have hK1 := va_K.moved hvm.symm hK1
  obtain ⟨hP, hD⟩ := va_join (wr := [(a1, .inr (4, [.int 0, .ref ed, .int 0])), (a3, .inr (4, [.int 0, .ref ed, .int 0])), (a4, .inr (4, [.int 0, .ref ed, .int 0])), (tt, .inl (cT, 24, .inl (fun _ => 0))), (rr, .inr (6, [.ref t1, .ref t2, .int 0, .int 0, .long 0, .long 0])), (b1, .inr (4, [.int 0, .ref ed, .int 0])), (b3, .inr (4, [.int 0, .ref ed, .int 0])), (b4, .inr (4, [.int 0, .ref ed, .int 0])), (b5, .inr (4, [.int 0, .ref ed, .int 0])), (ou, .inl (cO, 1, .inr (.inl (fun _ => 0)))), (od, .inl (cD, 1, .inr (.inr (.inr (.inl (fun _ => 0)))))), (x, .inr (11, [.ref a1, .ref a2, .ref a3, .ref a4, .ref tt, .int 0, .ref rr, .ref cq])), (a2, .inr (4, [.int 0, .ref ed, .int 0])), (b2, .inr (4, [.int 0, .ref ed, .int 0]))]) (w1 := [(mo, .inr (15, [.ref b1, .ref b2, .ref b3, .ref b4, .ref b5, .int 1]))]) hP hD [13] [0, 1, 2, 3, 4, 5, 6, 7, 8, 9, 10, 11, 12, 14] rfl rfl (by decide) (by decide) hk1 hFc hP1 hD1
  have hK := (hK.sub (tys' := [(cT, .int), (cO, .long), (cD, .double)]) [0, 1, 2] rfl).app hK1
  generalize H1 = H at hP hS ⊢
  have hP : va_P (dC, dI) vwCl [(a1, .inr (4, [.int 0, .ref ed, .int 0])), (a3, .inr (4, [.int 0, .ref ed, .int 0])), (a4, .inr (4, [.int 0, .ref ed, .int 0])), (tt, .inl (cT, 24, .inl (fun _ => 0))), (rr, .inr (6, [.ref t1, .ref t2, .int 0, .int 0, .long 0, .long 0])), (b1, .inr (4, [.int 0, .ref ed, .int 0])), (b3, .inr (4, [.int 0, .ref ed, .int 0])), (b4, .inr (4, [.int 0, .ref ed, .int 0])), (b5, .inr (4, [.int 0, .ref ed, .int 0])), (ou, .inl (cO, 1, .inr (.inl (fun _ => 0)))), (od, .inl (cD, 1, .inr (.inr (.inr (.inl (fun _ => 0)))))), (x, .inr (11, [.ref a1, .ref a2, .ref a3, .ref a4, .ref tt, .int 0, .ref rr, .ref cq])), (a2, .inr (4, [.int 0, .ref ed, .int 0])), (b2, .inr (4, [.int 0, .ref ed, .int 0])), (mo, .inr (15, [.ref b1, .ref b2, .ref b3, .ref b4, .ref b5, .int 1]))] H := hP
  have hD : va_D (fun q : Nat => s.heap.size ≤ q) [(a1, .inr (4, [.int 0, .ref ed, .int 0])), (a3, .inr (4, [.int 0, .ref ed, .int 0])), (a4, .inr (4, [.int 0, .ref ed, .int 0])), (tt, .inl (cT, 24, .inl (fun _ => 0))), (rr, .inr (6, [.ref t1, .ref t2, .int 0, .int 0, .long 0, .long 0])), (b1, .inr (4, [.int 0, .ref ed, .int 0])), (b3, .inr (4, [.int 0, .ref ed, .int 0])), (b4, .inr (4, [.int 0, .ref ed, .int 0])), (b5, .inr (4, [.int 0, .ref ed, .int 0])), (ou, .inl (cO, 1, .inr (.inl (fun _ => 0)))), (od, .inl (cD, 1, .inr (.inr (.inr (.inl (fun _ => 0)))))), (x, .inr (11, [.ref a1, .ref a2, .ref a3, .ref a4, .ref tt, .int 0, .ref rr, .ref cq])), (a2, .inr (4, [.int 0, .ref ed, .int 0])), (b2, .inr (4, [.int 0, .ref ed, .int 0])), (mo, .inr (15, [.ref b1, .ref b2, .ref b3, .ref b4, .ref b5, .int 1]))] := hD
  have hK : va_K (dC, dI) vwCl [(cT, .int), (cO, .long), (cD, .double)] s := hK
  refine W.widen (k := 28) (n := 304) (Nat.le_of_ble_eq_true rfl) (Nat.le_of_ble_eq_true rfl) ?_
  have hw : r_534 = 1 := hw
  subst hw
  refine lv_iload hx hb dL_law_876 (lv_at hl 1 rfl) ?_
  refine lv_icmp_eq (tgt := 883) hx hb dL_law_878 (by decide) (fun c_535 => ?_) (fun c_535 => absurd (by decide) c_535)
  refine lv_iload hx hb dL_law_883 (lv_at hl 1 rfl) ?_
  refine lv_if_ne (tgt := 900) hx hb dL_law_885 (by decide) (fun c_536 => ?_) (fun c_536 => absurd c_536 (by decide))
  refine lv_goto (tgt := 3072) hx hb dL_law_900 (by decide) ?_
  refine W.widen (k := 100) (n := 1000) (Nat.le_of_ble_eq_true rfl) (Nat.le_of_ble_eq_true rfl) ?_
  exact law_tail l C0 hS (lv_sub hl [2, 7] rfl)
set_option maxHeartbeats 4000000 in
set_option maxRecDepth 100000 in
theorem law_case_9 {p : Program} {e : Env} {s : State} {m : MethodId} {below : List Frame} {meth : Method} {c : Code} (l : Launch) (hl9 : l.stackTraces = false) (dC : Nat → ClassId) (dI : Nat → Nat → Nat) (ed : Nat) {b : Nat} {xs : Nat → Int32} (C0 : lw_At p s m meth c b 5 xs) (hZ : pz ed (fun q : Nat => s.heap.size ≤ q) s s.heap) (x a1 a2 a3 a4 tt rr cq t1 t2 mo b1 b2 b3 b4 b5 ou od : Nat) (cT cO cD : ClassId) {H : Heap} {locs : List Loc} (hK : va_K (dC, dI) vwCl [(cT, .int), (cO, .long), (cD, .double)] s) (hP : va_P (dC, dI) vwCl [(x, .inr (11, [.ref a1, .ref a2, .ref a3, .ref a4, .ref tt, .int 0, .ref rr, .ref cq])), (a1, .inr (4, [.int 0, .ref ed, .int 0])), (a2, .inr (4, [.int 0, .ref ed, .int 0])), (a3, .inr (4, [.int 0, .ref ed, .int 0])), (a4, .inr (4, [.int 0, .ref ed, .int 0])), (tt, .inl (cT, 24, .inl (fun _ => 0))), (rr, .inr (6, [.ref t1, .ref t2, .int 0, .int 0, .long 0, .long 0])), (mo, .inr (15, [.ref b1, .ref b2, .ref b3, .ref b4, .ref b5, .int 0])), (b1, .inr (4, [.int 0, .ref ed, .int 0])), (b2, .inr (4, [.int 0, .ref ed, .int 0])), (b3, .inr (4, [.int 0, .ref ed, .int 0])), (b4, .inr (4, [.int 0, .ref ed, .int 0])), (b5, .inr (4, [.int 0, .ref ed, .int 0])), (ou, .inl (cO, 1, .inr (.inl (fun _ => 0)))), (od, .inl (cD, 1, .inr (.inr (.inr (.inl (fun _ => 0))))))] H) (hD : va_D (fun q : Nat => s.heap.size ≤ q) [(x, .inr (11, [.ref a1, .ref a2, .ref a3, .ref a4, .ref tt, .int 0, .ref rr, .ref cq])), (a1, .inr (4, [.int 0, .ref ed, .int 0])), (a2, .inr (4, [.int 0, .ref ed, .int 0])), (a3, .inr (4, [.int 0, .ref ed, .int 0])), (a4, .inr (4, [.int 0, .ref ed, .int 0])), (tt, .inl (cT, 24, .inl (fun _ => 0))), (rr, .inr (6, [.ref t1, .ref t2, .int 0, .int 0, .long 0, .long 0])), (mo, .inr (15, [.ref b1, .ref b2, .ref b3, .ref b4, .ref b5, .int 0])), (b1, .inr (4, [.int 0, .ref ed, .int 0])), (b2, .inr (4, [.int 0, .ref ed, .int 0])), (b3, .inr (4, [.int 0, .ref ed, .int 0])), (b4, .inr (4, [.int 0, .ref ed, .int 0])), (b5, .inr (4, [.int 0, .ref ed, .int 0])), (ou, .inl (cO, 1, .inr (.inl (fun _ => 0)))), (od, .inl (cD, 1, .inr (.inr (.inr (.inl (fun _ => 0))))))]) (hS : va_S (fun q : Nat => s.heap.size ≤ q) s.heap H locs) {ls : Array Slot} (hl : lv_has ls 9 [(5, .int 0), (4, .ref od), (3, .ref ou), (2, .ref mo), (1, .ref x), (0, .ref b)]) : W p l e room_1 s m #[Value.ref b] below meth c H locs 27 298 (lw_Z below #[Value.ref b] s) (F0 m 903 ls []) := by
  obtain ⟨hx, hb, hr, hml, hown, hts0, hX, hbl, hlocks, hgv⟩ := id C0
  have hts : ∀ w ∈ pw_all, w.before #[Value.ref b] s = true := fun w h => hts0 w (pw_tbl h)
  have hA : ∀ q : Nat, s.heap.size ≤ q → (fun q : Nat => s.heap.size ≤ q) q := fun _ h => h
  have hbA : ¬ (fun q : Nat => s.heap.size ≤ q) b := Nat.not_le.mpr hbl
  refine lv_aload_n hx hb dL_law_903 rfl (lv_at hl 4 rfl) ?_
  refine lv_aload_n hx hb dL_law_904 rfl (lv_at hl 2 rfl) ?_
  have hPc := hP.sub (ws' := [(x, .inr (11, [.ref a1, .ref a2, .ref a3, .ref a4, .ref tt, .int 0, .ref rr, .ref cq])), (a3, .inr (4, [.int 0, .ref ed, .int 0])), (ou, .inl (cO, 1, .inr (.inl (fun _ => 0))))]) [0, 3, 13] rfl
  have hDc := hD.sub (ws' := [(x, .inr (11, [.ref a1, .ref a2, .ref a3, .ref a4, .ref tt, .int 0, .ref rr, .ref cq])), (a3, .inr (4, [.int 0, .ref ed, .int 0])), (ou, .inl (cO, 1, .inr (.inl (fun _ => 0))))]) [0, 3, 13] (by decide) rfl
  have hKc := hK.sub (tys' := [(cO, .long)]) [1] rfl
  have hFc := va_free (wc := [(x, .inr (11, [.ref a1, .ref a2, .ref a3, .ref a4, .ref tt, .int 0, .ref rr, .ref cq])), (a3, .inr (4, [.int 0, .ref ed, .int 0])), (ou, .inl (cO, 1, .inr (.inl (fun _ => 0))))]) hD hS hA [0, 3, 13] rfl
  refine va_calli (vx_runSW (As := [.ref x, .ref ou]) (rest := []) ⟨hx, hb, hml, hown, hts⟩ (w_addSpecification l dC dI H.size ed x a3 ou (.ref a1) (.ref a2) (.ref a4) (.ref tt) (.int 0) (.ref rr) (.ref cq) 0 cO (fun _ => 0)) (vx_cwSW 2 hts (pw_S q711 q712 q42 q713) rfl rfl rfl (by decide +kernel) ⟨(Nat.le_of_ble_eq_true rfl), (Nat.le_of_ble_eq_true rfl)⟩) ⟨fun a U g mk q => by obtain ⟨q0, q1, qP, qK, qD, qZ⟩ := q; exact ⟨q0, q1, qP, va_K.moved (u := U) (U := U.calling g mk a) (Vm.Alike.refl U.vm) qK, qD, qZ.same rfl⟩, fun U hU hW => ⟨rfl, by rw [hU], by rw [hU]; exact hPc, va_K.moved hW.alike hKc, hDc.weaken (fun _ _ _ _ => trivial), hZ.call hS hFc hU hW⟩⟩ rfl rfl hl.1 rfl (lv_room (Nat.le_of_ble_eq_true rfl)) dL_law_905 ⟨(Nat.le_of_ble_eq_true rfl), (Nat.le_of_ble_eq_true rfl)⟩) hS (fun q _ h => hFc q h) hFc (fun r_537 u t H1 locs ht hvm hw hB hz1 hk1 hS => ?_)
  obtain ⟨qb_538, hP1, hK1, hD1⟩ := hB
  rw [ht] at hP1
  have hK1 := va_K.moved hvm.symm hK1
  obtain ⟨hP, hD⟩ := va_join (wr := [(a1, .inr (4, [.int 0, .ref ed, .int 0])), (a2, .inr (4, [.int 0, .ref ed, .int 0])), (a4, .inr (4, [.int 0, .ref ed, .int 0])), (tt, .inl (cT, 24, .inl (fun _ => 0))), (rr, .inr (6, [.ref t1, .ref t2, .int 0, .int 0, .long 0, .long 0])), (mo, .inr (15, [.ref b1, .ref b2, .ref b3, .ref b4, .ref b5, .int 0])), (b1, .inr (4, [.int 0, .ref ed, .int 0])), (b2, .inr (4, [.int 0, .ref ed, .int 0])), (b3, .inr (4, [.int 0, .ref ed, .int 0])), (b4, .inr (4, [.int 0, .ref ed, .int 0])), (b5, .inr (4, [.int 0, .ref ed, .int 0])), (od, .inl (cD, 1, .inr (.inr (.inr (.inl (fun _ => 0))))))]) (w1 := [(x, .inr (11, [.ref a1, .ref a2, .ref a3, .ref a4, .ref tt, .int 0, .ref rr, .ref cq])), (a3, .inr (4, [.int (0 + 1), .ref qb_538, .int 1])), (ou, .inl (cO, 1, .inr (.inl (vp_updL (fun _ => 0) 0 0))))]) hP hD [0, 3, 13] [1, 2, 4, 5, 6, 7, 8, 9, 10, 11, 12, 14] rfl rfl (by decide) (by decide) hk1 hFc hP1 hD1
  have hK := (hK.sub (tys' := [(cT, .int), (cD, .double)]) [0, 2] rfl).app hK1
  generalize H1 = H at hP hS ⊢
  have hP : va_P (dC, dI) vwCl [(a1, .inr (4, [.int 0, .ref ed, .int 0])), (a2, .inr (4, [.int 0, .ref ed, .int 0])), (a4, .inr (4, [.int 0, .ref ed, .int 0])), (tt, .inl (cT, 24, .inl (fun _ => 0))), (rr, .inr (6, [.ref t1, .ref t2, .int 0, .int 0, .long 0, .long 0])), (mo, .inr (15, [.ref b1, .ref b2, .ref b3, .ref b4, .ref b5, .int 0])), (b1, .inr (4, [.int 0, .ref ed, .int 0])), (b2, .inr (4, [.int 0, .ref ed, .int 0])), (b3, .inr (4, [.int 0, .ref ed, .int 0])), (b4, .inr (4, [.int 0, .ref ed, .int 0])), (b5, .inr (4, [.int 0, .ref ed, .int 0])), (od, .inl (cD, 1, .inr (.inr (.inr (.inl (fun _ => 0)))))), (x, .inr (11, [.ref a1, .ref a2, .ref a3, .ref a4, .ref tt, .int 0, .ref rr, .ref cq])), (a3, .inr (4, [.int (0 + 1), .ref qb_538, .int 1])), (ou, .inl (cO, 1, .inr (.inl (vp_updL (fun _ => 0) 0 0))))] H := hP
  have hD : va_D (fun q : Nat => s.heap.size ≤ q) [(a1, .inr (4, [.int 0, .ref ed, .int 0])), (a2, .inr (4, [.int 0, .ref ed, .int 0])), (a4, .inr (4, [.int 0, .ref ed, .int 0])), (tt, .inl (cT, 24, .inl (fun _ => 0))), (rr, .inr (6, [.ref t1, .ref t2, .int 0, .int 0, .long 0, .long 0])), (mo, .inr (15, [.ref b1, .ref b2, .ref b3, .ref b4, .ref b5, .int 0])), (b1, .inr (4, [.int 0, .ref ed, .int 0])), (b2, .inr (4, [.int 0, .ref ed, .int 0])), (b3, .inr (4, [.int 0, .ref ed, .int 0])), (b4, .inr (4, [.int 0, .ref ed, .int 0])), (b5, .inr (4, [.int 0, .ref ed, .int 0])), (od, .inl (cD, 1, .inr (.inr (.inr (.inl (fun _ => 0)))))), (x, .inr (11, [.ref a1, .ref a2, .ref a3, .ref a4, .ref tt, .int 0, .ref rr, .ref cq])), (a3, .inr (4, [.int (0 + 1), .ref qb_538, .int 1])), (ou, .inl (cO, 1, .inr (.inl (vp_updL (fun _ => 0) 0 0))))] := hD
  have hK : va_K (dC, dI) vwCl [(cT, .int), (cD, .double), (cO, .long)] s := hK
  refine W.widen (k := 31) (n := 326) (Nat.le_of_ble_eq_true rfl) (Nat.le_of_ble_eq_true rfl) ?_
  have hw : r_537 = 0 := hw
  subst hw
  refine lv_istore (lv' := [(6, .int 0), (5, .int 0), (4, .ref od), (3, .ref ou), (2, .ref mo), (1, .ref x), (0, .ref b)]) hx hb dL_law_908 hl (by decide) rfl (fun ls hl => ?_)
  refine lv_aload_n hx hb dL_law_910 rfl (lv_at hl 4 rfl) ?_
  have hPc := hP.sub (ws' := [(mo, .inr (15, [.ref b1, .ref b2, .ref b3, .ref b4, .ref b5, .int 0])), (b3, .inr (4, [.int 0, .ref ed, .int 0]))]) [5, 8] rfl
  have hDc := hD.sub (ws' := [(mo, .inr (15, [.ref b1, .ref b2, .ref b3, .ref b4, .ref b5, .int 0])), (b3, .inr (4, [.int 0, .ref ed, .int 0]))]) [5, 8] (by decide) rfl
  have hKc := hK.sub (tys' := [(cT, .int)]) [0] rfl
  have hFc := va_free (wc := [(mo, .inr (15, [.ref b1, .ref b2, .ref b3, .ref b4, .ref b5, .int 0])), (b3, .inr (4, [.int 0, .ref ed, .int 0]))]) hD hS hA [5, 8] rfl
  refine va_calli (va_runV (As := []) (rest := []) ⟨hx, hb, hml, hown, hts⟩ (z_addSpecification l dC dI H.size ed mo b3 (.ref b1) (.ref b2) (.ref b4) (.ref b5) cT 0 0) (cwV 0 hts (pw_V q1423 q1424 q1425 q49 q1426) rfl rfl rfl (by decide +kernel) ⟨(Nat.le_of_ble_eq_true rfl), (Nat.le_of_ble_eq_true rfl)⟩) ⟨fun a U g mk q => by obtain ⟨q0, q1, qP, qK, qD, qZ⟩ := q; exact ⟨q0, q1, qP, va_K.moved (u := U) (U := U.calling g mk a) (Vm.Alike.refl U.vm) qK, qD, qZ.same rfl⟩, va_recv hKc hPc (ci := 15) (q0 := 0) rfl rfl, fun U hU hW => ⟨rfl, by rw [hU], by rw [hU]; exact hPc, va_K.moved hW.alike hKc, hDc.weaken (fun _ _ _ _ => trivial), hZ.call hS hFc hU hW⟩⟩ rfl rfl hl.1 rfl (lv_room (Nat.le_of_ble_eq_true rfl)) dL_law_911 ⟨(Nat.le_of_ble_eq_true rfl), (Nat.le_of_ble_eq_true rfl)⟩) hS (fun q _ h => hFc q h) hFc (fun r_539 u t H1 locs ht hvm hw hB hz1 hk1 hS => ?_)
  obtain ⟨qb_540, hP1, hK1, hD1⟩ := hB
  rw [ht] at hP1
  have hK1 := va_K.moved hvm.symm hK1
  obtain ⟨hP, hD⟩ := va_join (wr := [(a1, .inr (4, [.int 0, .ref ed, .int 0])), (a2, .inr (4, [.int 0, .ref ed, .int 0])), (a4, .inr (4, [.int 0, .ref ed, .int 0])), (tt, .inl (cT, 24, .inl (fun _ => 0))), (rr, .inr (6, [.ref t1, .ref t2, .int 0, .int 0, .long 0, .long 0])), (b1, .inr (4, [.int 0, .ref ed, .int 0])), (b2, .inr (4, [.int 0, .ref ed, .int 0])), (b4, .inr (4, [.int 0, .ref ed, .int 0])), (b5, .inr (4, [.int 0, .ref ed, .int 0])), (od, .inl (cD, 1, .inr (.inr (.inr (.inl (fun _ => 0)))))), (x, .inr (11, [.ref a1, .ref a2, .ref a3, .ref a4, .ref tt, .int 0, .ref rr, .ref cq])), (a3, .inr (4, [.int (0 + 1), .ref qb_538, .int 1])), (ou, .inl (cO, 1, .inr (.inl (vp_updL (fun _ => 0) 0 0))))]) (w1 := [(mo, .inr (15, [.ref b1, .ref b2, .ref b3, .ref b4, .ref b5, .int 0])), (b3, .inr (4, [.int (0 + 1), .ref qb_540, .int 1]))]) hP hD [5, 8] [0, 1, 2, 3, 4, 6, 7, 9, 10, 11, 12, 13, 14] rfl rfl (by decide) (by decide) hk1 hFc hP1 hD1
  have hK := (hK.sub (tys' := [(cD, .double), (cO, .long)]) [1, 2] rfl).app hK1
  generalize H1 = H at hP hS ⊢
  have hP : va_P (dC, dI) vwCl [(a1, .inr (4, [.int 0, .ref ed, .int 0])), (a2, .inr (4, [.int 0, .ref ed, .int 0])), (a4, .inr (4, [.int 0, .ref ed, .int 0])), (tt, .inl (cT, 24, .inl (fun _ => 0))), (rr, .inr (6, [.ref t1, .ref t2, .int 0, .int 0, .long 0, .long 0])), (b1, .inr (4, [.int 0, .ref ed, .int 0])), (b2, .inr (4, [.int 0, .ref ed, .int 0])), (b4, .inr (4, [.int 0, .ref ed, .int 0])), (b5, .inr (4, [.int 0, .ref ed, .int 0])), (od, .inl (cD, 1, .inr (.inr (.inr (.inl (fun _ => 0)))))), (x, .inr (11, [.ref a1, .ref a2, .ref a3, .ref a4, .ref tt, .int 0, .ref rr, .ref cq])), (a3, .inr (4, [.int (0 + 1), .ref qb_538, .int 1])), (ou, .inl (cO, 1, .inr (.inl (vp_updL (fun _ => 0) 0 0)))), (mo, .inr (15, [.ref b1, .ref b2, .ref b3, .ref b4, .ref b5, .int 0])), (b3, .inr (4, [.int (0 + 1), .ref qb_540, .int 1]))] H := hP
  have hD : va_D (fun q : Nat => s.heap.size ≤ q) [(a1, .inr (4, [.int 0, .ref ed, .int 0])), (a2, .inr (4, [.int 0, .ref ed, .int 0])), (a4, .inr (4, [.int 0, .ref ed, .int 0])), (tt, .inl (cT, 24, .inl (fun _ => 0))), (rr, .inr (6, [.ref t1, .ref t2, .int 0, .int 0, .long 0, .long 0])), (b1, .inr (4, [.int 0, .ref ed, .int 0])), (b2, .inr (4, [.int 0, .ref ed, .int 0])), (b4, .inr (4, [.int 0, .ref ed, .int 0])), (b5, .inr (4, [.int 0, .ref ed, .int 0])), (od, .inl (cD, 1, .inr (.inr (.inr (.inl (fun _ => 0)))))), (x, .inr (11, [.ref a1, .ref a2, .ref a3, .ref a4, .ref tt, .int 0, .ref rr, .ref cq])), (a3, .inr (4, [.int (0 + 1), .ref qb_538, .int 1])), (ou, .inl (cO, 1, .inr (.inl (vp_updL (fun _ => 0) 0 0)))), (mo, .inr (15, [.ref b1, .ref b2, .ref b3, .ref b4, .ref b5, .int 0])), (b3, .inr (4, [.int (0 + 1), .ref qb_540, .int 1]))] := hD
  have hK : va_K (dC, dI) vwCl [(cD, .double), (cO, .long), (cT, .int)] s := hK
  refine W.widen (k := 35) (n := 354) (Nat.le_of_ble_eq_true rfl) (Nat.le_of_ble_eq_true rfl) ?_
  have hw : r_539 = 0 := hw
  subst hw
  refine lv_istore (lv' := [(7, .int 0), (6, .int 0), (5, .int 0), (4, .ref od), (3, .ref ou), (2, .ref mo), (1, .ref x), (0, .ref b)]) hx hb dL_law_914 hl (by decide) rfl (fun ls hl => ?_)
  refine lv_aload_n hx hb dL_law_916 rfl (lv_at hl 5 rfl) ?_
  have hPc := hP.sub (ws' := [(mo, .inr (15, [.ref b1, .ref b2, .ref b3, .ref b4, .ref b5, .int 0]))]) [13] rfl
  have hDc := hD.sub (ws' := [(mo, .inr (15, [.ref b1, .ref b2, .ref b3, .ref b4, .ref b5, .int 0]))]) [13] (by decide) rfl
  have hKc := hK.sub (tys' := []) [] rfl
  have hFc := va_free (wc := [(mo, .inr (15, [.ref b1, .ref b2, .ref b3, .ref b4, .ref b5, .int 0]))]) hD hS hA [13] rfl
  refine va_calli (va_runV (As := []) (rest := []) ⟨hx, hb, hml, hown, hts⟩ (n_thrown l dC dI H.size mo (.ref b1) (.ref b2) (.ref b3) (.ref b4) (.ref b5) 0) (cwV 0 hts (pw_V q1244 q1245 q1246 q49 q1247) rfl rfl rfl (by decide +kernel) ⟨(Nat.le_of_ble_eq_true rfl), (Nat.le_of_ble_eq_true rfl)⟩) ⟨fun a U g mk q => by obtain ⟨q0, q1, qP, qK, qD⟩ := q; exact ⟨q0, q1, qP, va_K.moved (u := U) (U := U.calling g mk a) (Vm.Alike.refl U.vm) qK, qD⟩, va_recv hKc hPc (ci := 15) (q0 := 0) rfl rfl, fun U hU hW => ⟨rfl, by rw [hU], by rw [hU]; exact hPc, va_K.moved hW.alike hKc, hDc.weaken (fun _ _ _ _ => trivial)⟩⟩ rfl rfl hl.1 rfl (lv_room (Nat.le_of_ble_eq_true rfl)) dL_law_917 ⟨(Nat.le_of_ble_eq_true rfl), (Nat.le_of_ble_eq_true rfl)⟩) hS (fun q _ h => hFc q h) hFc (fun r_541 u t H1 locs ht hvm hw hB hz1 hk1 hS => ?_)
  obtain ⟨hP1, hK1, hD1⟩ := hB
  rw [ht] at hP1
  have hK1 := va_K.moved hvm.symm hK1
  obtain ⟨hP, hD⟩ := va_join (wr := [(a1, .inr (4, [.int 0, .ref ed, .int 0])), (a2, .inr (4, [.int 0, .ref ed, .int 0])), (a4, .inr (4, [.int 0, .ref ed, .int 0])), (tt, .inl (cT, 24, .inl (fun _ => 0))), (rr, .inr (6, [.ref t1, .ref t2, .int 0, .int 0, .long 0, .long 0])), (b1, .inr (4, [.int 0, .ref ed, .int 0])), (b2, .inr (4, [.int 0, .ref ed, .int 0])), (b4, .inr (4, [.int 0, .ref ed, .int 0])), (b5, .inr (4, [.int 0, .ref ed, .int 0])), (od, .inl (cD, 1, .inr (.inr (.inr (.inl (fun _ => 0)))))), (x, .inr (11, [.ref a1, .ref a2, .ref a3, .ref a4, .ref tt, .int 0, .ref rr, .ref cq])), (a3, .inr (4, [.int (0 + 1), .ref qb_538, .int 1])), (ou, .inl (cO, 1, .inr (.inl (vp_updL (fun _ => 0) 0 0)))), (b3, .inr (4, [.int (0 + 1), .ref qb_540, .int 1]))]) (w1 := [(mo, .inr (15, [.ref b1, .ref b2, .ref b3, .ref b4, .ref b5, .int 0]))]) hP hD [13] [0, 1, 2, 3, 4, 5, 6, 7, 8, 9, 10, 11, 12, 14] rfl rfl (by decide) (by decide) hk1 hFc hP1 hD1
  have hK := (hK.sub (tys' := [(cD, .double), (cO, .long), (cT, .int)]) [0, 1, 2] rfl).app hK1
  generalize H1 = H at hP hS ⊢
  have hP : va_P (dC, dI) vwCl [(a1, .inr (4, [.int 0, .ref ed, .int 0])), (a2, .inr (4, [.int 0, .ref ed, .int 0])), (a4, .inr (4, [.int 0, .ref ed, .int 0])), (tt, .inl (cT, 24, .inl (fun _ => 0))), (rr, .inr (6, [.ref t1, .ref t2, .int 0, .int 0, .long 0, .long 0])), (b1, .inr (4, [.int 0, .ref ed, .int 0])), (b2, .inr (4, [.int 0, .ref ed, .int 0])), (b4, .inr (4, [.int 0, .ref ed, .int 0])), (b5, .inr (4, [.int 0, .ref ed, .int 0])), (od, .inl (cD, 1, .inr (.inr (.inr (.inl (fun _ => 0)))))), (x, .inr (11, [.ref a1, .ref a2, .ref a3, .ref a4, .ref tt, .int 0, .ref rr, .ref cq])), (a3, .inr (4, [.int (0 + 1), .ref qb_538, .int 1])), (ou, .inl (cO, 1, .inr (.inl (vp_updL (fun _ => 0) 0 0)))), (b3, .inr (4, [.int (0 + 1), .ref qb_540, .int 1])), (mo, .inr (15, [.ref b1, .ref b2, .ref b3, .ref b4, .ref b5, .int 0]))] H := hP
  have hD : va_D (fun q : Nat => s.heap.size ≤ q) [(a1, .inr (4, [.int 0, .ref ed, .int 0])), (a2, .inr (4, [.int 0, .ref ed, .int 0])), (a4, .inr (4, [.int 0, .ref ed, .int 0])), (tt, .inl (cT, 24, .inl (fun _ => 0))), (rr, .inr (6, [.ref t1, .ref t2, .int 0, .int 0, .long 0, .long 0])), (b1, .inr (4, [.int 0, .ref ed, .int 0])), (b2, .inr (4, [.int 0, .ref ed, .int 0])), (b4, .inr (4, [.int 0, .ref ed, .int 0])), (b5, .inr (4, [.int 0, .ref ed, .int 0])), (od, .inl (cD, 1, .inr (.inr (.inr (.inl (fun _ => 0)))))), (x, .inr (11, [.ref a1, .ref a2, .ref a3, .ref a4, .ref tt, .int 0, .ref rr, .ref cq])), (a3, .inr (4, [.int (0 + 1), .ref qb_538, .int 1])), (ou, .inl (cO, 1, .inr (.inl (vp_updL (fun _ => 0) 0 0)))), (b3, .inr (4, [.int (0 + 1), .ref qb_540, .int 1])), (mo, .inr (15, [.ref b1, .ref b2, .ref b3, .ref b4, .ref b5, .int 0]))] := hD
  have hK : va_K (dC, dI) vwCl [(cD, .double), (cO, .long), (cT, .int)] s := hK
  refine W.widen (k := 35) (n := 354) (Nat.le_of_ble_eq_true rfl) (Nat.le_of_ble_eq_true rfl) ?_
  have hw : r_541 = 0 := hw
  subst hw
  refine lv_iload hx hb dL_law_920 (lv_at hl 1 rfl) ?_
  refine lv_icmp_eq (tgt := 927) hx hb dL_law_922 (by decide) (fun c_542 => ?_) (fun c_542 => absurd (by decide) c_542)
  refine lv_iload hx hb dL_law_927 (lv_at hl 1 rfl) ?_
  refine lv_if_ne (tgt := 944) hx hb dL_law_929 (by decide) (fun c_543 => absurd (by decide) c_543) (fun c_543 => ?_)
  refine lv_aload_n hx hb dL_law_932 rfl (lv_at hl 4 rfl) ?_
  refine lv_iconst (v := 0) hx hb dL_law_933 (by decide) ?_
  refine va_lald hx hb hK hP 12 1 rfl rfl (by unfold vp_in; decide) dL_law_934 ?_
  refine lv_numL (v := 0) (by decide) ?_
  refine lv_iload hx hb dL_law_935 (lv_at hl 0 rfl) ?_
  refine lv_i2l (v := 0) hx hb dL_law_937 (by decide) ?_
  refine W.lcmp hx hb dL_law_938 ?_
  refine lv_numI (v := 0) (by decide) ?_
  refine lv_if_eq (tgt := 944) hx hb dL_law_939 (by decide) (fun c_544 => ?_) (fun c_544 => absurd (by decide) c_544)
  refine lv_goto (tgt := 3072) hx hb dL_law_944 (by decide) ?_
  refine W.widen (k := 100) (n := 1000) (Nat.le_of_ble_eq_true rfl) (Nat.le_of_ble_eq_true rfl) ?_
  exact law_tail l C0 hS (lv_sub hl [2, 7] rfl)
set_option maxHeartbeats 4000000 in
set_option maxRecDepth 100000 in
theorem law_case_10 {p : Program} {e : Env} {s : State} {m : MethodId} {below : List Frame} {meth : Method} {c : Code} (l : Launch) (hl9 : l.stackTraces = false) (dC : Nat → ClassId) (dI : Nat → Nat → Nat) (ed : Nat) {b : Nat} {xs : Nat → Int32} (C0 : lw_At p s m meth c b 5 xs) (hZ : pz ed (fun q : Nat => s.heap.size ≤ q) s s.heap) (x a1 a2 a3 a4 tt rr cq t1 t2 mo b1 b2 b3 b4 b5 ou od : Nat) (cT cO cD : ClassId) {H : Heap} {locs : List Loc} (hK : va_K (dC, dI) vwCl [(cT, .int), (cO, .long), (cD, .double)] s) (hP : va_P (dC, dI) vwCl [(x, .inr (11, [.ref a1, .ref a2, .ref a3, .ref a4, .ref tt, .int 0, .ref rr, .ref cq])), (a1, .inr (4, [.int 0, .ref ed, .int 0])), (a2, .inr (4, [.int 0, .ref ed, .int 0])), (a3, .inr (4, [.int 0, .ref ed, .int 0])), (a4, .inr (4, [.int 0, .ref ed, .int 0])), (tt, .inl (cT, 24, .inl (fun _ => 0))), (rr, .inr (6, [.ref t1, .ref t2, .int 0, .int 0, .long 0, .long 0])), (mo, .inr (15, [.ref b1, .ref b2, .ref b3, .ref b4, .ref b5, .int 0])), (b1, .inr (4, [.int 0, .ref ed, .int 0])), (b2, .inr (4, [.int 0, .ref ed, .int 0])), (b3, .inr (4, [.int 0, .ref ed, .int 0])), (b4, .inr (4, [.int 0, .ref ed, .int 0])), (b5, .inr (4, [.int 0, .ref ed, .int 0])), (ou, .inl (cO, 1, .inr (.inl (fun _ => 0)))), (od, .inl (cD, 1, .inr (.inr (.inr (.inl (fun _ => 0))))))] H) (hD : va_D (fun q : Nat => s.heap.size ≤ q) [(x, .inr (11, [.ref a1, .ref a2, .ref a3, .ref a4, .ref tt, .int 0, .ref rr, .ref cq])), (a1, .inr (4, [.int 0, .ref ed, .int 0])), (a2, .inr (4, [.int 0, .ref ed, .int 0])), (a3, .inr (4, [.int 0, .ref ed, .int 0])), (a4, .inr (4, [.int 0, .ref ed, .int 0])), (tt, .inl (cT, 24, .inl (fun _ => 0))), (rr, .inr (6, [.ref t1, .ref t2, .int 0, .int 0, .long 0, .long 0])), (mo, .inr (15, [.ref b1, .ref b2, .ref b3, .ref b4, .ref b5, .int 0])), (b1, .inr (4, [.int 0, .ref ed, .int 0])), (b2, .inr (4, [.int 0, .ref ed, .int 0])), (b3, .inr (4, [.int 0, .ref ed, .int 0])), (b4, .inr (4, [.int 0, .ref ed, .int 0])), (b5, .inr (4, [.int 0, .ref ed, .int 0])), (ou, .inl (cO, 1, .inr (.inl (fun _ => 0)))), (od, .inl (cD, 1, .inr (.inr (.inr (.inl (fun _ => 0))))))]) (hS : va_S (fun q : Nat => s.heap.size ≤ q) s.heap H locs) {ls : Array Slot} (hl : lv_has ls 9 [(5, .int 0), (4, .ref od), (3, .ref ou), (2, .ref mo), (1, .ref x), (0, .ref b)]) : W p l e room_1 s m #[Value.ref b] below meth c H locs 27 298 (lw_Z below #[Value.ref b] s) (F0 m 947 ls []) := by
  obtain ⟨hx, hb, hr, hml, hown, hts0, hX, hbl, hlocks, hgv⟩ := id C0
  have hts : ∀ w ∈ pw_all, w.before #[Value.ref b] s = true := fun w h => hts0 w (pw_tbl h)
  have hA : ∀ q : Nat, s.heap.size ≤ q → (fun q : Nat => s.heap.size ≤ q) q := fun _ h => h
  have hbA : ¬ (fun q : Nat => s.heap.size ≤ q) b := Nat.not_le.mpr hbl
  refine lv_aload_n hx hb dL_law_947 rfl (lv_at hl 4 rfl) ?_
  refine lv_aload_n hx hb dL_law_948 rfl (lv_at hl 5 rfl) ?_
  refine lv_iload hx hb dL_law_949 (lv_at hl 0 rfl) ?_
  refine lv_iconst (v := 1) hx hb dL_law_951 (by decide) ?_
  refine lv_iadd hx hb dL_law_952 ?_
  refine lv_numI (v := 1) (by decide) ?_
  refine va_sld hx hb hX hbl hbA hS (by unfold vp_in; decide) dL_law_953 ?_
  refine lv_aload_n hx hb dL_law_954 rfl (lv_at hl 5 rfl) ?_
  refine lv_iload hx hb dL_law_955 (lv_at hl 0 rfl) ?_
  refine lv_iconst (v := 2) hx hb dL_law_957 (by decide) ?_
  refine lv_iadd hx hb dL_law_958 ?_
  refine lv_numI (v := 2) (by decide) ?_
  refine va_sld hx hb hX hbl hbA hS (by unfold vp_in; decide) dL_law_959 ?_
  refine lv_aload_n hx hb dL_law_960 rfl (lv_at hl 5 rfl) ?_
  refine lv_iload hx hb dL_law_961 (lv_at hl 0 rfl) ?_
  refine lv_iconst (v := 3) hx hb dL_law_963 (by decide) ?_
  refine lv_iadd hx hb dL_law_964 ?_
  refine lv_numI (v := 3) (by decide) ?_
  refine va_sld hx hb hX hbl hbA hS (by unfold vp_in; decide) dL_law_965 ?_
  refine lv_aload_n hx hb dL_law_966 rfl (lv_at hl 2 rfl) ?_
  have hPc := hP.sub (ws' := [(x, .inr (11, [.ref a1, .ref a2, .ref a3, .ref a4, .ref tt, .int 0, .ref rr, .ref cq])), (a3, .inr (4, [.int 0, .ref ed, .int 0]))]) [0, 3] rfl
  have hDc := hD.sub (ws' := [(x, .inr (11, [.ref a1, .ref a2, .ref a3, .ref a4, .ref tt, .int 0, .ref rr, .ref cq])), (a3, .inr (4, [.int 0, .ref ed, .int 0]))]) [0, 3] (by decide) rfl
  have hKc := hK.sub (tys' := []) [] rfl
  have hFc := va_free (wc := [(x, .inr (11, [.ref a1, .ref a2, .ref a3, .ref a4, .ref tt, .int 0, .ref rr, .ref cq])), (a3, .inr (4, [.int 0, .ref ed, .int 0]))]) hD hS hA [0, 3] rfl
  refine va_calli (vx_runSW (As := [.ref x, .int (xs (Int32.toNatClampNeg 1)), .int (xs (Int32.toNatClampNeg 2)), .int (xs (Int32.toNatClampNeg 3)), .ref ou]) (rest := []) ⟨hx, hb, hml, hown, hts⟩ (w_setLevel l hl9 dC dI H.size ed x a3 (.ref a1) (.ref a2) (.ref a4) (.ref tt) (.int 0) (.ref rr) (.ref cq) (.int 0) (.ref ed) (xs (Int32.toNatClampNeg 1)) (xs (Int32.toNatClampNeg 2)) (xs (Int32.toNatClampNeg 3)) ou) (vx_cwSW 5 hts (pw_S q736 q737 q42 q738) rfl rfl rfl (by decide +kernel) ⟨(Nat.le_of_ble_eq_true rfl), (Nat.le_of_ble_eq_true rfl)⟩) ⟨fun a U g mk q => by obtain ⟨q0, q1, qP, qK, qD, qZ⟩ := q; exact ⟨q0, q1, qP, va_K.moved (u := U) (U := U.calling g mk a) (Vm.Alike.refl U.vm) qK, qD, qZ.same rfl⟩, fun U hU hW => ⟨rfl, by rw [hU], by rw [hU]; exact hPc, va_K.moved hW.alike hKc, hDc.weaken (fun _ _ _ _ => trivial), hZ.call hS hFc hU hW⟩⟩ rfl rfl hl.1 rfl (lv_room (Nat.le_of_ble_eq_true rfl)) dL_law_967 ⟨(Nat.le_of_ble_eq_true rfl), (Nat.le_of_ble_eq_true rfl)⟩) hS (fun q _ h => hFc q h) hFc (fun r_545 u t H1 locs ht hvm hw hB hz1 hk1 hS => ?_)
  obtain ⟨hP1, hK1, hD1⟩ := hB
  rw [ht] at hP1
  have hK1 := va_K.moved hvm.symm hK1
  obtain ⟨hP, hD⟩ := va_join (wr := [(a1, .inr (4, [.int 0, .ref ed, .int 0])), (a2, .inr (4, [.int 0, .ref ed, .int 0])), (a4, .inr (4, [.int 0, .ref ed, .int 0])), (tt, .inl (cT, 24, .inl (fun _ => 0))), (rr, .inr (6, [.ref t1, .ref t2, .int 0, .int 0, .long 0, .long 0])), (mo, .inr (15, [.ref b1, .ref b2, .ref b3, .ref b4, .ref b5, .int 0])), (b1, .inr (4, [.int 0, .ref ed, .int 0])), (b2, .inr (4, [.int 0, .ref ed, .int 0])), (b3, .inr (4, [.int 0, .ref ed, .int 0])), (b4, .inr (4, [.int 0, .ref ed, .int 0])), (b5, .inr (4, [.int 0, .ref ed, .int 0])), (ou, .inl (cO, 1, .inr (.inl (fun _ => 0)))), (od, .inl (cD, 1, .inr (.inr (.inr (.inl (fun _ => 0))))))]) (w1 := [(x, .inr (11, [.ref a1, .ref a2, .ref a3, .ref a4, .ref tt, .int 0, .ref rr, .ref cq])), (a3, .inr (4, [.int 0, .ref ed, .int 0]))]) hP hD [0, 3] [1, 2, 4, 5, 6, 7, 8, 9, 10, 11, 12, 13, 14] rfl rfl (by decide) (by decide) hk1 hFc hP1 hD1
  have hK := (hK.sub (tys' := [(cT, .int), (cO, .long), (cD, .double)]) [0, 1, 2] rfl).app hK1
  generalize H1 = H at hP hS ⊢
  have hP : va_P (dC, dI) vwCl [(a1, .inr (4, [.int 0, .ref ed, .int 0])), (a2, .inr (4, [.int 0, .ref ed, .int 0])), (a4, .inr (4, [.int 0, .ref ed, .int 0])), (tt, .inl (cT, 24, .inl (fun _ => 0))), (rr, .inr (6, [.ref t1, .ref t2, .int 0, .int 0, .long 0, .long 0])), (mo, .inr (15, [.ref b1, .ref b2, .ref b3, .ref b4, .ref b5, .int 0])), (b1, .inr (4, [.int 0, .ref ed, .int 0])), (b2, .inr (4, [.int 0, .ref ed, .int 0])), (b3, .inr (4, [.int 0, .ref ed, .int 0])), (b4, .inr (4, [.int 0, .ref ed, .int 0])), (b5, .inr (4, [.int 0, .ref ed, .int 0])), (ou, .inl (cO, 1, .inr (.inl (fun _ => 0)))), (od, .inl (cD, 1, .inr (.inr (.inr (.inl (fun _ => 0)))))), (x, .inr (11, [.ref a1, .ref a2, .ref a3, .ref a4, .ref tt, .int 0, .ref rr, .ref cq])), (a3, .inr (4, [.int 0, .ref ed, .int 0]))] H := hP
  have hD : va_D (fun q : Nat => s.heap.size ≤ q) [(a1, .inr (4, [.int 0, .ref ed, .int 0])), (a2, .inr (4, [.int 0, .ref ed, .int 0])), (a4, .inr (4, [.int 0, .ref ed, .int 0])), (tt, .inl (cT, 24, .inl (fun _ => 0))), (rr, .inr (6, [.ref t1, .ref t2, .int 0, .int 0, .long 0, .long 0])), (mo, .inr (15, [.ref b1, .ref b2, .ref b3, .ref b4, .ref b5, .int 0])), (b1, .inr (4, [.int 0, .ref ed, .int 0])), (b2, .inr (4, [.int 0, .ref ed, .int 0])), (b3, .inr (4, [.int 0, .ref ed, .int 0])), (b4, .inr (4, [.int 0, .ref ed, .int 0])), (b5, .inr (4, [.int 0, .ref ed, .int 0])), (ou, .inl (cO, 1, .inr (.inl (fun _ => 0)))), (od, .inl (cD, 1, .inr (.inr (.inr (.inl (fun _ => 0)))))), (x, .inr (11, [.ref a1, .ref a2, .ref a3, .ref a4, .ref tt, .int 0, .ref rr, .ref cq])), (a3, .inr (4, [.int 0, .ref ed, .int 0]))] := hD
  have hK : va_K (dC, dI) vwCl [(cT, .int), (cO, .long), (cD, .double)] s := hK
  refine W.widen (k := 28) (n := 304) (Nat.le_of_ble_eq_true rfl) (Nat.le_of_ble_eq_true rfl) ?_
  have hw : r_545 = 1 := hw
  subst hw
  refine lv_istore (lv' := [(6, .int 1), (5, .int 0), (4, .ref od), (3, .ref ou), (2, .ref mo), (1, .ref x), (0, .ref b)]) hx hb dL_law_970 hl (by decide) rfl (fun ls hl => ?_)
  refine lv_aload_n hx hb dL_law_972 rfl (lv_at hl 4 rfl) ?_
  refine lv_aload_n hx hb dL_law_973 rfl (lv_at hl 6 rfl) ?_
  refine lv_iload hx hb dL_law_974 (lv_at hl 1 rfl) ?_
  refine lv_iconst (v := 1) hx hb dL_law_976 (by decide) ?_
  refine lv_iadd hx hb dL_law_977 ?_
  refine lv_numI (v := 1) (by decide) ?_
  refine va_sld hx hb hX hbl hbA hS (by unfold vp_in; decide) dL_law_978 ?_
  refine lv_aload_n hx hb dL_law_979 rfl (lv_at hl 6 rfl) ?_
  refine lv_iload hx hb dL_law_980 (lv_at hl 1 rfl) ?_
  refine lv_iconst (v := 2) hx hb dL_law_982 (by decide) ?_
  refine lv_iadd hx hb dL_law_983 ?_
  refine lv_numI (v := 2) (by decide) ?_
  refine va_sld hx hb hX hbl hbA hS (by unfold vp_in; decide) dL_law_984 ?_
  refine lv_aload_n hx hb dL_law_985 rfl (lv_at hl 6 rfl) ?_
  refine lv_iload hx hb dL_law_986 (lv_at hl 1 rfl) ?_
  refine lv_iconst (v := 3) hx hb dL_law_988 (by decide) ?_
  refine lv_iadd hx hb dL_law_989 ?_
  refine lv_numI (v := 3) (by decide) ?_
  refine va_sld hx hb hX hbl hbA hS (by unfold vp_in; decide) dL_law_990 ?_
  have hPc := hP.sub (ws' := [(mo, .inr (15, [.ref b1, .ref b2, .ref b3, .ref b4, .ref b5, .int 0])), (b3, .inr (4, [.int 0, .ref ed, .int 0]))]) [5, 8] rfl
  have hDc := hD.sub (ws' := [(mo, .inr (15, [.ref b1, .ref b2, .ref b3, .ref b4, .ref b5, .int 0])), (b3, .inr (4, [.int 0, .ref ed, .int 0]))]) [5, 8] (by decide) rfl
  have hKc := hK.sub (tys' := []) [] rfl
  have hFc := va_free (wc := [(mo, .inr (15, [.ref b1, .ref b2, .ref b3, .ref b4, .ref b5, .int 0])), (b3, .inr (4, [.int 0, .ref ed, .int 0]))]) hD hS hA [5, 8] rfl
  refine va_calli (va_runV (As := [.int (xs (Int32.toNatClampNeg 1)), .int (xs (Int32.toNatClampNeg 2)), .int (xs (Int32.toNatClampNeg 3))]) (rest := []) ⟨hx, hb, hml, hown, hts⟩ (y_setLevel l dC dI H.size mo b3 (.ref b1) (.ref b2) (.ref b4) (.ref b5) (.int 0) (.ref ed) 0 (xs (Int32.toNatClampNeg 1)) (xs (Int32.toNatClampNeg 2)) (xs (Int32.toNatClampNeg 3))) (cwV 3 hts (pw_V q1432 q1433 q1434 q49 q1435) rfl rfl rfl (by decide +kernel) ⟨(Nat.le_of_ble_eq_true rfl), (Nat.le_of_ble_eq_true rfl)⟩) ⟨fun a U g mk q => by obtain ⟨q0, q1, qP, qK, qD⟩ := q; exact ⟨q0, q1, qP, va_K.moved (u := U) (U := U.calling g mk a) (Vm.Alike.refl U.vm) qK, qD⟩, va_recv hKc hPc (ci := 15) (q0 := 0) rfl rfl, fun U hU hW => ⟨rfl, by rw [hU], by rw [hU]; exact hPc, va_K.moved hW.alike hKc, hDc.weaken (fun _ _ _ _ => trivial)⟩⟩ rfl rfl hl.1 rfl (lv_room (Nat.le_of_ble_eq_true rfl)) dL_law_991 ⟨(Nat.le_of_ble_eq_true rfl), (Nat.le_of_ble_eq_true rfl)⟩) hS (fun q _ h => hFc q h) hFc (fun r_546 u t H1 locs ht hvm hw hB hz1 hk1 hS => ?_)
  obtain ⟨hP1, hK1, hD1⟩ := hB
  rw [ht] at hP1
  have hK1 := va_K.moved hvm.symm hK1
  obtain ⟨hP, hD⟩ := va_join (wr := [(a1, .inr (4, [.int 0, .ref ed, .int 0])), (a2, .inr (4, [.int 0, .ref ed, .int 0])), (a4, .inr (4, [.int 0, .ref ed, .int 0])), (tt, .inl (cT, 24, .inl (fun _ => 0))), (rr, .inr (6, [.ref t1, .ref t2, .int 0, .int 0, .long 0, .long 0])), (b1, .inr (4, [.int 0, .ref ed, .int 0])), (b2, .inr (4, [.int 0, .ref ed, .int 0])), (b4, .inr (4, [.int 0, .ref ed, .int 0])), (b5, .inr (4, [.int 0, .ref ed, .int 0])), (ou, .inl (cO, 1, .inr (.inl (fun _ => 0)))), (od, .inl (cD, 1, .inr (.inr (.inr (.inl (fun _ => 0)))))), (x, .inr (11, [.ref a1, .ref a2, .ref a3, .ref a4, .ref tt, .int 0, .ref rr, .ref cq])), (a3, .inr (4, [.int 0, .ref ed, .int 0]))]) (w1 := [(mo, .inr (15, [.ref b1, .ref b2, .ref b3, .ref b4, .ref b5, .int 1])), (b3, .inr (4, [.int 0, .ref ed, .int 0]))]) hP hD [5, 8] [0, 1, 2, 3, 4, 6, 7, 9, 10, 11, 12, 13, 14] rfl rfl (by decide) (by decide) hk1 hFc hP1 hD1
  have hK := (hK.sub (tys' := [(cT, .int), (cO, .long), (cD, .double)]) [0, 1, 2] rfl).app hK1
  generalize H1 = H at hP hS ⊢
  have hP : va_P (dC, dI) vwCl [(a1, .inr (4, [.int 0, .ref ed, .int 0])), (a2, .inr (4, [.int 0, .ref ed, .int 0])), (a4, .inr (4, [.int 0, .ref ed, .int 0])), (tt, .inl (cT, 24, .inl (fun _ => 0))), (rr, .inr (6, [.ref t1, .ref t2, .int 0, .int 0, .long 0, .long 0])), (b1, .inr (4, [.int 0, .ref ed, .int 0])), (b2, .inr (4, [.int 0, .ref ed, .int 0])), (b4, .inr (4, [.int 0, .ref ed, .int 0])), (b5, .inr (4, [.int 0, .ref ed, .int 0])), (ou, .inl (cO, 1, .inr (.inl (fun _ => 0)))), (od, .inl (cD, 1, .inr (.inr (.inr (.inl (fun _ => 0)))))), (x, .inr (11, [.ref a1, .ref a2, .ref a3, .ref a4, .ref tt, .int 0, .ref rr, .ref cq])), (a3, .inr (4, [.int 0, .ref ed, .int 0])), (mo, .inr (15, [.ref b1, .ref b2, .ref b3, .ref b4, .ref b5, .int 1])), (b3, .inr (4, [.int 0, .ref ed, .int 0]))] H := hP
  have hD : va_D (fun q : Nat => s.heap.size ≤ q) [(a1, .inr (4, [.int 0, .ref ed, .int 0])), (a2, .inr (4, [.int 0, .ref ed, .int 0])), (a4, .inr (4, [.int 0, .ref ed, .int 0])), (tt, .inl (cT, 24, .inl (fun _ => 0))), (rr, .inr (6, [.ref t1, .ref t2, .int 0, .int 0, .long 0, .long 0])), (b1, .inr (4, [.int 0, .ref ed, .int 0])), (b2, .inr (4, [.int 0, .ref ed, .int 0])), (b4, .inr (4, [.int 0, .ref ed, .int 0])), (b5, .inr (4, [.int 0, .ref ed, .int 0])), (ou, .inl (cO, 1, .inr (.inl (fun _ => 0)))), (od, .inl (cD, 1, .inr (.inr (.inr (.inl (fun _ => 0)))))), (x, .inr (11, [.ref a1, .ref a2, .ref a3, .ref a4, .ref tt, .int 0, .ref rr, .ref cq])), (a3, .inr (4, [.int 0, .ref ed, .int 0])), (mo, .inr (15, [.ref b1, .ref b2, .ref b3, .ref b4, .ref b5, .int 1])), (b3, .inr (4, [.int 0, .ref ed, .int 0]))] := hD
  have hK : va_K (dC, dI) vwCl [(cT, .int), (cO, .long), (cD, .double)] s := hK
  refine W.widen (k := 28) (n := 304) (Nat.le_of_ble_eq_true rfl) (Nat.le_of_ble_eq_true rfl) ?_
  have hw : r_546 = 0 := hw
  subst hw
  refine lv_istore (lv' := [(7, .int 0), (6, .int 1), (5, .int 0), (4, .ref od), (3, .ref ou), (2, .ref mo), (1, .ref x), (0, .ref b)]) hx hb dL_law_994 hl (by decide) rfl (fun ls hl => ?_)
  refine lv_aload_n hx hb dL_law_996 rfl (lv_at hl 5 rfl) ?_
  have hPc := hP.sub (ws' := [(mo, .inr (15, [.ref b1, .ref b2, .ref b3, .ref b4, .ref b5, .int 1]))]) [13] rfl
  have hDc := hD.sub (ws' := [(mo, .inr (15, [.ref b1, .ref b2, .ref b3, .ref b4, .ref b5, .int 1]))]) [13] (by decide) rfl
  have hKc := hK.sub (tys' := []) [] rfl
  have hFc := va_free (wc := [(mo, .inr (15, [.ref b1, .ref b2, .ref b3, .ref b4, .ref b5, .int 1]))]) hD hS hA [13] rfl
  refine va_calli (va_runV (As := []) (rest := []) ⟨hx, hb, hml, hown, hts⟩ (n_thrown l dC dI H.size mo (.ref b1) (.ref b2) (.ref b3) (.ref b4) (.ref b5) 1) (cwV 0 hts (pw_V q1244 q1245 q1246 q49 q1247) rfl rfl rfl (by decide +kernel) ⟨(Nat.le_of_ble_eq_true rfl), (Nat.le_of_ble_eq_true rfl)⟩) ⟨fun a U g mk q => by obtain ⟨q0, q1, qP, qK, qD⟩ := q; exact ⟨q0, q1, qP, va_K.moved (u := U) (U := U.calling g mk a) (Vm.Alike.refl U.vm) qK, qD⟩, va_recv hKc hPc (ci := 15) (q0 := 0) rfl rfl, fun U hU hW => ⟨rfl, by rw [hU], by rw [hU]; exact hPc, va_K.moved hW.alike hKc, hDc.weaken (fun _ _ _ _ => trivial)⟩⟩ rfl rfl hl.1 rfl (lv_room (Nat.le_of_ble_eq_true rfl)) dL_law_997 ⟨(Nat.le_of_ble_eq_true rfl), (Nat.le_of_ble_eq_true rfl)⟩) hS (fun q _ h => hFc q h) hFc (fun r_547 u t H1 locs ht hvm hw hB hz1 hk1 hS => ?_)
  obtain ⟨hP1, hK1, hD1⟩ := hB
  rw [ht] at hP1
  have hK1 := va_K.moved hvm.symm hK1
  obtain ⟨hP, hD⟩ := va_join (wr := [(a1, .inr (4, [.int 0, .ref ed, .int 0])), (a2, .inr (4, [.int 0, .ref ed, .int 0])), (a4, .inr (4, [.int 0, .ref ed, .int 0])), (tt, .inl (cT, 24, .inl (fun _ => 0))), (rr, .inr (6, [.ref t1, .ref t2, .int 0, .int 0, .long 0, .long 0])), (b1, .inr (4, [.int 0, .ref ed, .int 0])), (b2, .inr (4, [.int 0, .ref ed, .int 0])), (b4, .inr (4, [.int 0, .ref ed, .int 0])), (b5, .inr (4, [.int 0, .ref ed, .int 0])), (ou, .inl (cO, 1, .inr (.inl (fun _ => 0)))), (od, .inl (cD, 1, .inr (.inr (.inr (.inl (fun _ => 0)))))), (x, .inr (11, [.ref a1, .ref a2, .ref a3, .ref a4, .ref tt, .int 0, .ref rr, .ref cq])), (a3, .inr (4, [.int 0, .ref ed, .int 0])), (b3, .inr (4, [.int 0, .ref ed, .int 0]))]) (w1 := [(mo, .inr (15, [.ref b1, .ref b2, .ref b3, .ref b4, .ref b5, .int 1]))]) hP hD [13] [0, 1, 2, 3, 4, 5, 6, 7, 8, 9, 10, 11, 12, 14] rfl rfl (by decide) (by decide) hk1 hFc hP1 hD1
  have hK := (hK.sub (tys' := [(cT, .int), (cO, .long), (cD, .double)]) [0, 1, 2] rfl).app hK1
  generalize H1 = H at hP hS ⊢
  have hP : va_P (dC, dI) vwCl [(a1, .inr (4, [.int 0, .ref ed, .int 0])), (a2, .inr (4, [.int 0, .ref ed, .int 0])), (a4, .inr (4, [.int 0, .ref ed, .int 0])), (tt, .inl (cT, 24, .inl (fun _ => 0))), (rr, .inr (6, [.ref t1, .ref t2, .int 0, .int 0, .long 0, .long 0])), (b1, .inr (4, [.int 0, .ref ed, .int 0])), (b2, .inr (4, [.int 0, .ref ed, .int 0])), (b4, .inr (4, [.int 0, .ref ed, .int 0])), (b5, .inr (4, [.int 0, .ref ed, .int 0])), (ou, .inl (cO, 1, .inr (.inl (fun _ => 0)))), (od, .inl (cD, 1, .inr (.inr (.inr (.inl (fun _ => 0)))))), (x, .inr (11, [.ref a1, .ref a2, .ref a3, .ref a4, .ref tt, .int 0, .ref rr, .ref cq])), (a3, .inr (4, [.int 0, .ref ed, .int 0])), (b3, .inr (4, [.int 0, .ref ed, .int 0])), (mo, .inr (15, [.ref b1, .ref b2, .ref b3, .ref b4, .ref b5, .int 1]))] H := hP
  have hD : va_D (fun q : Nat => s.heap.size ≤ q) [(a1, .inr (4, [.int 0, .ref ed, .int 0])), (a2, .inr (4, [.int 0, .ref ed, .int 0])), (a4, .inr (4, [.int 0, .ref ed, .int 0])), (tt, .inl (cT, 24, .inl (fun _ => 0))), (rr, .inr (6, [.ref t1, .ref t2, .int 0, .int 0, .long 0, .long 0])), (b1, .inr (4, [.int 0, .ref ed, .int 0])), (b2, .inr (4, [.int 0, .ref ed, .int 0])), (b4, .inr (4, [.int 0, .ref ed, .int 0])), (b5, .inr (4, [.int 0, .ref ed, .int 0])), (ou, .inl (cO, 1, .inr (.inl (fun _ => 0)))), (od, .inl (cD, 1, .inr (.inr (.inr (.inl (fun _ => 0)))))), (x, .inr (11, [.ref a1, .ref a2, .ref a3, .ref a4, .ref tt, .int 0, .ref rr, .ref cq])), (a3, .inr (4, [.int 0, .ref ed, .int 0])), (b3, .inr (4, [.int 0, .ref ed, .int 0])), (mo, .inr (15, [.ref b1, .ref b2, .ref b3, .ref b4, .ref b5, .int 1]))] := hD
  have hK : va_K (dC, dI) vwCl [(cT, .int), (cO, .long), (cD, .double)] s := hK
  refine W.widen (k := 28) (n := 304) (Nat.le_of_ble_eq_true rfl) (Nat.le_of_ble_eq_true rfl) ?_
  have hw : r_547 = 1 := hw
  subst hw
  refine lv_iload hx hb dL_law_1000 (lv_at hl 1 rfl) ?_
  refine lv_icmp_eq (tgt := 1007) hx hb dL_law_1002 (by decide) (fun c_548 => ?_) (fun c_548 => absurd (by decide) c_548)
  refine lv_iload hx hb dL_law_1007 (lv_at hl 1 rfl) ?_
  refine lv_if_ne (tgt := 1024) hx hb dL_law_1009 (by decide) (fun c_549 => ?_) (fun c_549 => absurd c_549 (by decide))
  refine lv_goto (tgt := 3072) hx hb dL_law_1024 (by decide) ?_
  refine W.widen (k := 100) (n := 1000) (Nat.le_of_ble_eq_true rfl) (Nat.le_of_ble_eq_true rfl) ?_
  exact law_tail l C0 hS (lv_sub hl [2, 7] rfl)
set_option maxHeartbeats 4000000 in
set_option maxRecDepth 100000 in
theorem law_case_11 {p : Program} {e : Env} {s : State} {m : MethodId} {below : List Frame} {meth : Method} {c : Code} (l : Launch) (hl9 : l.stackTraces = false) (dC : Nat → ClassId) (dI : Nat → Nat → Nat) (ed : Nat) {b : Nat} {xs : Nat → Int32} (C0 : lw_At p s m meth c b 5 xs) (hZ : pz ed (fun q : Nat => s.heap.size ≤ q) s s.heap) (x a1 a2 a3 a4 tt rr cq t1 t2 mo b1 b2 b3 b4 b5 ou od : Nat) (cT cO cD : ClassId) {H : Heap} {locs : List Loc} (hK : va_K (dC, dI) vwCl [(cT, .int), (cO, .long), (cD, .double)] s) (hP : va_P (dC, dI) vwCl [(x, .inr (11, [.ref a1, .ref a2, .ref a3, .ref a4, .ref tt, .int 0, .ref rr, .ref cq])), (a1, .inr (4, [.int 0, .ref ed, .int 0])), (a2, .inr (4, [.int 0, .ref ed, .int 0])), (a3, .inr (4, [.int 0, .ref ed, .int 0])), (a4, .inr (4, [.int 0, .ref ed, .int 0])), (tt, .inl (cT, 24, .inl (fun _ => 0))), (rr, .inr (6, [.ref t1, .ref t2, .int 0, .int 0, .long 0, .long 0])), (mo, .inr (15, [.ref b1, .ref b2, .ref b3, .ref b4, .ref b5, .int 0])), (b1, .inr (4, [.int 0, .ref ed, .int 0])), (b2, .inr (4, [.int 0, .ref ed, .int 0])), (b3, .inr (4, [.int 0, .ref ed, .int 0])), (b4, .inr (4, [.int 0, .ref ed, .int 0])), (b5, .inr (4, [.int 0, .ref ed, .int 0])), (ou, .inl (cO, 1, .inr (.inl (fun _ => 0)))), (od, .inl (cD, 1, .inr (.inr (.inr (.inl (fun _ => 0))))))] H) (hD : va_D (fun q : Nat => s.heap.size ≤ q) [(x, .inr (11, [.ref a1, .ref a2, .ref a3, .ref a4, .ref tt, .int 0, .ref rr, .ref cq])), (a1, .inr (4, [.int 0, .ref ed, .int 0])), (a2, .inr (4, [.int 0, .ref ed, .int 0])), (a3, .inr (4, [.int 0, .ref ed, .int 0])), (a4, .inr (4, [.int 0, .ref ed, .int 0])), (tt, .inl (cT, 24, .inl (fun _ => 0))), (rr, .inr (6, [.ref t1, .ref t2, .int 0, .int 0, .long 0, .long 0])), (mo, .inr (15, [.ref b1, .ref b2, .ref b3, .ref b4, .ref b5, .int 0])), (b1, .inr (4, [.int 0, .ref ed, .int 0])), (b2, .inr (4, [.int 0, .ref ed, .int 0])), (b3, .inr (4, [.int 0, .ref ed, .int 0])), (b4, .inr (4, [.int 0, .ref ed, .int 0])), (b5, .inr (4, [.int 0, .ref ed, .int 0])), (ou, .inl (cO, 1, .inr (.inl (fun _ => 0)))), (od, .inl (cD, 1, .inr (.inr (.inr (.inl (fun _ => 0))))))]) (hS : va_S (fun q : Nat => s.heap.size ≤ q) s.heap H locs) {ls : Array Slot} (hl : lv_has ls 9 [(5, .int 0), (4, .ref od), (3, .ref ou), (2, .ref mo), (1, .ref x), (0, .ref b)]) : W p l e room_1 s m #[Value.ref b] below meth c H locs 27 298 (lw_Z below #[Value.ref b] s) (F0 m 1027 ls []) := by
  obtain ⟨hx, hb, hr, hml, hown, hts0, hX, hbl, hlocks, hgv⟩ := id C0
  have hts : ∀ w ∈ pw_all, w.before #[Value.ref b] s = true := fun w h => hts0 w (pw_tbl h)
  have hA : ∀ q : Nat, s.heap.size ≤ q → (fun q : Nat => s.heap.size ≤ q) q := fun _ h => h
  have hbA : ¬ (fun q : Nat => s.heap.size ≤ q) b := Nat.not_le.mpr hbl
  refine lv_aload_n hx hb dL_law_1027 rfl (lv_at hl 4 rfl) ?_
  refine lv_aload_n hx hb dL_law_1028 rfl (lv_at hl 5 rfl) ?_
  refine lv_iload hx hb dL_law_1029 (lv_at hl 0 rfl) ?_
  refine lv_iconst (v := 1) hx hb dL_law_1031 (by decide) ?_
  refine lv_iadd hx hb dL_law_1032 ?_
  refine lv_numI (v := 1) (by decide) ?_
  refine va_sld hx hb hX hbl hbA hS (by unfold vp_in; decide) dL_law_1033 ?_
  refine lv_aload_n hx hb dL_law_1034 rfl (lv_at hl 5 rfl) ?_
  refine lv_iload hx hb dL_law_1035 (lv_at hl 0 rfl) ?_
  refine lv_iconst (v := 2) hx hb dL_law_1037 (by decide) ?_
  refine lv_iadd hx hb dL_law_1038 ?_
  refine lv_numI (v := 2) (by decide) ?_
  refine va_sld hx hb hX hbl hbA hS (by unfold vp_in; decide) dL_law_1039 ?_
  refine lv_aload_n hx hb dL_law_1040 rfl (lv_at hl 5 rfl) ?_
  refine lv_iload hx hb dL_law_1041 (lv_at hl 0 rfl) ?_
  refine lv_iconst (v := 3) hx hb dL_law_1043 (by decide) ?_
  refine lv_iadd hx hb dL_law_1044 ?_
  refine lv_numI (v := 3) (by decide) ?_
  refine va_sld hx hb hX hbl hbA hS (by unfold vp_in; decide) dL_law_1045 ?_
  refine lv_aload_n hx hb dL_law_1046 rfl (lv_at hl 2 rfl) ?_
  have hPc := hP.sub (ws' := [(x, .inr (11, [.ref a1, .ref a2, .ref a3, .ref a4, .ref tt, .int 0, .ref rr, .ref cq])), (a3, .inr (4, [.int 0, .ref ed, .int 0]))]) [0, 3] rfl
  have hDc := hD.sub (ws' := [(x, .inr (11, [.ref a1, .ref a2, .ref a3, .ref a4, .ref tt, .int 0, .ref rr, .ref cq])), (a3, .inr (4, [.int 0, .ref ed, .int 0]))]) [0, 3] (by decide) rfl
  have hKc := hK.sub (tys' := []) [] rfl
  have hFc := va_free (wc := [(x, .inr (11, [.ref a1, .ref a2, .ref a3, .ref a4, .ref tt, .int 0, .ref rr, .ref cq])), (a3, .inr (4, [.int 0, .ref ed, .int 0]))]) hD hS hA [0, 3] rfl
  refine va_calli (vx_runSW (As := [.ref x, .int (xs (Int32.toNatClampNeg 1)), .int (xs (Int32.toNatClampNeg 2)), .int (xs (Int32.toNatClampNeg 3)), .ref ou]) (rest := []) ⟨hx, hb, hml, hown, hts⟩ (w_setTolerance l hl9 dC dI H.size ed x a3 (.ref a1) (.ref a2) (.ref a4) (.ref tt) (.int 0) (.ref rr) (.ref cq) (.int 0) (.ref ed) (xs (Int32.toNatClampNeg 1)) (xs (Int32.toNatClampNeg 2)) (xs (Int32.toNatClampNeg 3)) ou) (vx_cwSW 5 hts (pw_S q752 q753 q42 q754) rfl rfl rfl (by decide +kernel) ⟨(Nat.le_of_ble_eq_true rfl), (Nat.le_of_ble_eq_true rfl)⟩) ⟨fun a U g mk q => by obtain ⟨q0, q1, qP, qK, qD, qZ⟩ := q; exact ⟨q0, q1, qP, va_K.moved (u := U) (U := U.calling g mk a) (Vm.Alike.refl U.vm) qK, qD, qZ.same rfl⟩, fun U hU hW => ⟨rfl, by rw [hU], by rw [hU]; exact hPc, va_K.moved hW.alike hKc, hDc.weaken (fun _ _ _ _ => trivial), hZ.call hS hFc hU hW⟩⟩ rfl rfl hl.1 rfl (lv_room (Nat.le_of_ble_eq_true rfl)) dL_law_1047 ⟨(Nat.le_of_ble_eq_true rfl), (Nat.le_of_ble_eq_true rfl)⟩) hS (fun q _ h => hFc q h) hFc (fun r_550 u t H1 locs ht hvm hw hB hz1 hk1 hS => ?_)
  obtain ⟨hP1, hK1, hD1⟩ := hB
  rw [ht] at hP1
  have hK1 := va_K.moved hvm.symm hK1
  obtain ⟨hP, hD⟩ := va_join (wr := [(a1, .inr (4, [.int 0, .ref ed, .int 0])), (a2, .inr (4, [.int 0, .ref ed, .int 0])), (a4, .inr (4, [.int 0, .ref ed, .int 0])), (tt, .inl (cT, 24, .inl (fun _ => 0))), (rr, .inr (6, [.ref t1, .ref t2, .int 0, .int 0, .long 0, .long 0])), (mo, .inr (15, [.ref b1, .ref b2, .ref b3, .ref b4, .ref b5, .int 0])), (b1, .inr (4, [.int 0, .ref ed, .int 0])), (b2, .inr (4, [.int 0, .ref ed, .int 0])), (b3, .inr (4, [.int 0, .ref ed, .int 0])), (b4, .inr (4, [.int 0, .ref ed, .int 0])), (b5, .inr (4, [.int 0, .ref ed, .int 0])), (ou, .inl (cO, 1, .inr (.inl (fun _ => 0)))), (od, .inl (cD, 1, .inr (.inr (.inr (.inl (fun _ => 0))))))]) (w1 := [(x, .inr (11, [.ref a1, .ref a2, .ref a3, .ref a4, .ref tt, .int 0, .ref rr, .ref cq])), (a3, .inr (4, [.int 0, .ref ed, .int 0]))]) hP hD [0, 3] [1, 2, 4, 5, 6, 7, 8, 9, 10, 11, 12, 13, 14] rfl rfl (by decide) (by decide) hk1 hFc hP1 hD1
  have hK := (hK.sub (tys' := [(cT, .int), (cO, .long), (cD, .double)]) [0, 1, 2] rfl).app hK1
  generalize H1 = H at hP hS ⊢
  have hP : va_P (dC, dI) vwCl [(a1, .inr (4, [.int 0, .ref ed, .int 0])), (a2, .inr (4, [.int 0, .ref ed, .int 0])), (a4, .inr (4, [.int 0, .ref ed, .int 0])), (tt, .inl (cT, 24, .inl (fun _ => 0))), (rr, .inr (6, [.ref t1, .ref t2, .int 0, .int 0, .long 0, .long 0])), (mo, .inr (15, [.ref b1, .ref b2, .ref b3, .ref b4, .ref b5, .int 0])), (b1, .inr (4, [.int 0, .ref ed, .int 0])), (b2, .inr (4, [.int 0, .ref ed, .int 0])), (b3, .inr (4, [.int 0, .ref ed, .int 0])), (b4, .inr (4, [.int 0, .ref ed, .int 0])), (b5, .inr (4, [.int 0, .ref ed, .int 0])), (ou, .inl (cO, 1, .inr (.inl (fun _ => 0)))), (od, .inl (cD, 1, .inr (.inr (.inr (.inl (fun _ => 0)))))), (x, .inr (11, [.ref a1, .ref a2, .ref a3, .ref a4, .ref tt, .int 0, .ref rr, .ref cq])), (a3, .inr (4, [.int 0, .ref ed, .int 0]))] H := hP
  have hD : va_D (fun q : Nat => s.heap.size ≤ q) [(a1, .inr (4, [.int 0, .ref ed, .int 0])), (a2, .inr (4, [.int 0, .ref ed, .int 0])), (a4, .inr (4, [.int 0, .ref ed, .int 0])), (tt, .inl (cT, 24, .inl (fun _ => 0))), (rr, .inr (6, [.ref t1, .ref t2, .int 0, .int 0, .long 0, .long 0])), (mo, .inr (15, [.ref b1, .ref b2, .ref b3, .ref b4, .ref b5, .int 0])), (b1, .inr (4, [.int 0, .ref ed, .int 0])), (b2, .inr (4, [.int 0, .ref ed, .int 0])), (b3, .inr (4, [.int 0, .ref ed, .int 0])), (b4, .inr (4, [.int 0, .ref ed, .int 0])), (b5, .inr (4, [.int 0, .ref ed, .int 0])), (ou, .inl (cO, 1, .inr (.inl (fun _ => 0)))), (od, .inl (cD, 1, .inr (.inr (.inr (.inl (fun _ => 0)))))), (x, .inr (11, [.ref a1, .ref a2, .ref a3, .ref a4, .ref tt, .int 0, .ref rr, .ref cq])), (a3, .inr (4, [.int 0, .ref ed, .int 0]))] := hD
  have hK : va_K (dC, dI) vwCl [(cT, .int), (cO, .long), (cD, .double)] s := hK
  refine W.widen (k := 28) (n := 304) (Nat.le_of_ble_eq_true rfl) (Nat.le_of_ble_eq_true rfl) ?_
  have hw : r_550 = 1 := hw
  subst hw
  refine lv_istore (lv' := [(6, .int 1), (5, .int 0), (4, .ref od), (3, .ref ou), (2, .ref mo), (1, .ref x), (0, .ref b)]) hx hb dL_law_1050 hl (by decide) rfl (fun ls hl => ?_)
  refine lv_aload_n hx hb dL_law_1052 rfl (lv_at hl 4 rfl) ?_
  refine lv_aload_n hx hb dL_law_1053 rfl (lv_at hl 6 rfl) ?_
  refine lv_iload hx hb dL_law_1054 (lv_at hl 1 rfl) ?_
  refine lv_iconst (v := 1) hx hb dL_law_1056 (by decide) ?_
  refine lv_iadd hx hb dL_law_1057 ?_
  refine lv_numI (v := 1) (by decide) ?_
  refine va_sld hx hb hX hbl hbA hS (by unfold vp_in; decide) dL_law_1058 ?_
  refine lv_aload_n hx hb dL_law_1059 rfl (lv_at hl 6 rfl) ?_
  refine lv_iload hx hb dL_law_1060 (lv_at hl 1 rfl) ?_
  refine lv_iconst (v := 2) hx hb dL_law_1062 (by decide) ?_
  refine lv_iadd hx hb dL_law_1063 ?_
  refine lv_numI (v := 2) (by decide) ?_
  refine va_sld hx hb hX hbl hbA hS (by unfold vp_in; decide) dL_law_1064 ?_
  refine lv_aload_n hx hb dL_law_1065 rfl (lv_at hl 6 rfl) ?_
  refine lv_iload hx hb dL_law_1066 (lv_at hl 1 rfl) ?_
  refine lv_iconst (v := 3) hx hb dL_law_1068 (by decide) ?_
  refine lv_iadd hx hb dL_law_1069 ?_
  refine lv_numI (v := 3) (by decide) ?_
  refine va_sld hx hb hX hbl hbA hS (by unfold vp_in; decide) dL_law_1070 ?_
  have hPc := hP.sub (ws' := [(mo, .inr (15, [.ref b1, .ref b2, .ref b3, .ref b4, .ref b5, .int 0])), (b3, .inr (4, [.int 0, .ref ed, .int 0]))]) [5, 8] rfl
  have hDc := hD.sub (ws' := [(mo, .inr (15, [.ref b1, .ref b2, .ref b3, .ref b4, .ref b5, .int 0])), (b3, .inr (4, [.int 0, .ref ed, .int 0]))]) [5, 8] (by decide) rfl
  have hKc := hK.sub (tys' := []) [] rfl
  have hFc := va_free (wc := [(mo, .inr (15, [.ref b1, .ref b2, .ref b3, .ref b4, .ref b5, .int 0])), (b3, .inr (4, [.int 0, .ref ed, .int 0]))]) hD hS hA [5, 8] rfl
  refine va_calli (va_runV (As := [.int (xs (Int32.toNatClampNeg 1)), .int (xs (Int32.toNatClampNeg 2)), .int (xs (Int32.toNatClampNeg 3))]) (rest := []) ⟨hx, hb, hml, hown, hts⟩ (y_setTolerance l dC dI H.size mo b3 (.ref b1) (.ref b2) (.ref b4) (.ref b5) (.int 0) (.ref ed) 0 (xs (Int32.toNatClampNeg 1)) (xs (Int32.toNatClampNeg 2)) (xs (Int32.toNatClampNeg 3))) (cwV 3 hts (pw_V q1448 q1449 q1450 q49 q1451) rfl rfl rfl (by decide +kernel) ⟨(Nat.le_of_ble_eq_true rfl), (Nat.le_of_ble_eq_true rfl)⟩) ⟨fun a U g mk q => by obtain ⟨q0, q1, qP, qK, qD⟩ := q; exact ⟨q0, q1, qP, va_K.moved (u := U) (U := U.calling g mk a) (Vm.Alike.refl U.vm) qK, qD⟩, va_recv hKc hPc (ci := 15) (q0 := 0) rfl rfl, fun U hU hW => ⟨rfl, by rw [hU], by rw [hU]; exact hPc, va_K.moved hW.alike hKc, hDc.weaken (fun _ _ _ _ => trivial)⟩⟩ rfl rfl hl.1 rfl (lv_room (Nat.le_of_ble_eq_true rfl)) dL_law_1071 ⟨(Nat.le_of_ble_eq_true rfl), (Nat.le_of_ble_eq_true rfl)⟩) hS (fun q _ h => hFc q h) hFc (fun r_551 u t H1 locs ht hvm hw hB hz1 hk1 hS => ?_)
  obtain ⟨hP1, hK1, hD1⟩ := hB
  rw [ht] at hP1
  have hK1 := va_K.moved hvm.symm hK1
  obtain ⟨hP, hD⟩ := va_join (wr := [(a1, .inr (4, [.int 0, .ref ed, .int 0])), (a2, .inr (4, [.int 0, .ref ed, .int 0])), (a4, .inr (4, [.int 0, .ref ed, .int 0])), (tt, .inl (cT, 24, .inl (fun _ => 0))), (rr, .inr (6, [.ref t1, .ref t2, .int 0, .int 0, .long 0, .long 0])), (b1, .inr (4, [.int 0, .ref ed, .int 0])), (b2, .inr (4, [.int 0, .ref ed, .int 0])), (b4, .inr (4, [.int 0, .ref ed, .int 0])), (b5, .inr (4, [.int 0, .ref ed, .int 0])), (ou, .inl (cO, 1, .inr (.inl (fun _ => 0)))), (od, .inl (cD, 1, .inr (.inr (.inr (.inl (fun _ => 0)))))), (x, .inr (11, [.ref a1, .ref a2, .ref a3, .ref a4, .ref tt, .int 0, .ref rr, .ref cq])), (a3, .inr (4, [.int 0, .ref ed, .int 0]))]) (w1 := [(mo, .inr (15, [.ref b1, .ref b2, .ref b3, .ref b4, .ref b5, .int 1])), (b3, .inr (4, [.int 0, .ref ed, .int 0]))]) hP hD [5, 8] [0, 1, 2, 3, 4, 6, 7, 9, 10, 11, 12, 13, 14] rfl rfl (by decide) (by decide) hk1 hFc hP1 hD1
  have hK := (hK.sub (tys' := [(cT, .int), (cO, .long), (cD, .double)]) [0, 1, 2] rfl).app hK1
  generalize H1 = H at hP hS ⊢
  have hP : va_P (dC, dI) vwCl [(a1, .inr (4, [.int 0, .ref ed, .int 0])), (a2, .inr (4, [.int 0, .ref ed, .int 0])), (a4, .inr (4, [.int 0, .ref ed, .int 0])), (tt, .inl (cT, 24, .inl (fun _ => 0))), (rr, .inr (6, [.ref t1, .ref t2, .int 0, .int 0, .long 0, .long 0])), (b1, .inr (4, [.int 0, .ref ed, .int 0])), (b2, .inr (4, [.int 0, .ref ed, .int 0])), (b4, .inr (4, [.int 0, .ref ed, .int 0])), (b5, .inr (4, [.int 0, .ref ed, .int 0])), (ou, .inl (cO, 1, .inr (.inl (fun _ => 0)))), (od, .inl (cD, 1, .inr (.inr (.inr (.inl (fun _ => 0)))))), (x, .inr (11, [.ref a1, .ref a2, .ref a3, .ref a4, .ref tt, .int 0, .ref rr, .ref cq])), (a3, .inr (4, [.int 0, .ref ed, .int 0])), (mo, .inr (15, [.ref b1, .ref b2, .ref b3, .ref b4, .ref b5, .int 1])), (b3, .inr (4, [.int 0, .ref ed, .int 0]))] H := hP
  have hD : va_D (fun q : Nat => s.heap.size ≤ q) [(a1, .inr (4, [.int 0, .ref ed, .int 0])), (a2, .inr (4, [.int 0, .ref ed, .int 0])), (a4, .inr (4, [.int 0, .ref ed, .int 0])), (tt, .inl (cT, 24, .inl (fun _ => 0))), (rr, .inr (6, [.ref t1, .ref t2, .int 0, .int 0, .long 0, .long 0])), (b1, .inr (4, [.int 0, .ref ed, .int 0])), (b2, .inr (4, [.int 0, .ref ed, .int 0])), (b4, .inr (4, [.int 0, .ref ed, .int 0])), (b5, .inr (4, [.int 0, .ref ed, .int 0])), (ou, .inl (cO, 1, .inr (.inl (fun _ => 0)))), (od, .inl (cD, 1, .inr (.inr (.inr (.inl (fun _ => 0)))))), (x, .inr (11, [.ref a1, .ref a2, .ref a3, .ref a4, .ref tt, .int 0, .ref rr, .ref cq])), (a3, .inr (4, [.int 0, .ref ed, .int 0])), (mo, .inr (15, [.ref b1, .ref b2, .ref b3, .ref b4, .ref b5, .int 1])), (b3, .inr (4, [.int 0, .ref ed, .int 0]))] := hD
  have hK : va_K (dC, dI) vwCl [(cT, .int), (cO, .long), (cD, .double)] s := hK
  refine W.widen (k := 28) (n := 304) (Nat.le_of_ble_eq_true rfl) (Nat.le_of_ble_eq_true rfl) ?_
  have hw : r_551 = 0 := hw
  subst hw
  refine lv_istore (lv' := [(7, .int 0), (6, .int 1), (5, .int 0), (4, .ref od), (3, .ref ou), (2, .ref mo), (1, .ref x), (0, .ref b)]) hx hb dL_law_1074 hl (by decide) rfl (fun ls hl => ?_)
  refine lv_aload_n hx hb dL_law_1076 rfl (lv_at hl 5 rfl) ?_
  have hPc := hP.sub (ws' := [(mo, .inr (15, [.ref b1, .ref b2, .ref b3, .ref b4, .ref b5, .int 1]))]) [13] rfl
  have hDc := hD.sub (ws' := [(mo, .inr (15, [.ref b1, .ref b2, .ref b3, .ref b4, .ref b5, .int 1]))]) [13] (by decide) rfl
  have hKc := hK.sub (tys' := []) [] rfl
  have hFc := va_free (wc := [(mo, .inr (15, [.ref b1, .ref b2, .ref b3, .ref b4, .ref b5, .int 1]))]) hD hS hA [13] rfl
  refine va_calli (va_runV (As := []) (rest := []) ⟨hx, hb, hml, hown, hts⟩ (n_thrown l dC dI H.size mo (.ref b1) (.ref b2) (.ref b3) (.ref b4) (.ref b5) 1) (cwV 0 hts (pw_V q1244 q1245 q1246 q49 q1247) rfl rfl rfl (by decide +kernel) ⟨(Nat.le_of_ble_eq_true rfl), (Nat.le_of_ble_eq_true rfl)⟩) ⟨fun a U g mk q => by obtain ⟨q0, q1, qP, qK, qD⟩ := q; exact ⟨q0, q1, qP, va_K.moved (u := U) (U := U.calling g mk a) (Vm.Alike.refl U.vm) qK, qD⟩, va_recv hKc hPc (ci := 15) (q0 := 0) rfl rfl, fun U hU hW => ⟨rfl, by rw [hU], by rw [hU]; exact hPc, va_K.moved hW.alike hKc, hDc.weaken (fun _ _ _ _ => trivial)⟩⟩ rfl rfl hl.1 rfl (lv_room (Nat.le_of_ble_eq_true rfl)) dL_law_1077 ⟨(Nat.le_of_ble_eq_true rfl), (Nat.le_of_ble_eq_true rfl)⟩) hS (fun q _ h => hFc q h) hFc (fun r_552 u t H1 locs ht hvm hw hB hz1 hk1 hS => ?_)
  obtain ⟨hP1, hK1, hD1⟩ := hB
  rw [ht] at hP1
  have hK1 := va_K.moved hvm.symm hK1
  obtain ⟨hP, hD⟩ := va_join (wr := [(a1, .inr (4, [.int 0, .ref ed, .int 0])), (a2, .inr (4, [.int 0, .ref ed, .int 0])), (a4, .inr (4, [.int 0, .ref ed, .int 0])), (tt, .inl (cT, 24, .inl (fun _ => 0))), (rr, .inr (6, [.ref t1, .ref t2, .int 0, .int 0, .long 0, .long 0])), (b1, .inr (4, [.int 0, .ref ed, .int 0])), (b2, .inr (4, [.int 0, .ref ed, .int 0])), (b4, .inr (4, [.int 0, .ref ed, .int 0])), (b5, .inr (4, [.int 0, .ref ed, .int 0])), (ou, .inl (cO, 1, .inr (.inl (fun _ => 0)))), (od, .inl (cD, 1, .inr (.inr (.inr (.inl (fun _ => 0)))))), (x, .inr (11, [.ref a1, .ref a2, .ref a3, .ref a4, .ref tt, .int 0, .ref rr, .ref cq])), (a3, .inr (4, [.int 0, .ref ed, .int 0])), (b3, .inr (4, [.int 0, .ref ed, .int 0]))]) (w1 := [(mo, .inr (15, [.ref b1, .ref b2, .ref b3, .ref b4, .ref b5, .int 1]))]) hP hD [13] [0, 1, 2, 3, 4, 5, 6, 7, 8, 9, 10, 11, 12, 14] rfl rfl (by decide) (by decide) hk1 hFc hP1 hD1
  have hK := (hK.sub (tys' := [(cT, .int), (cO, .long), (cD, .double)]) [0, 1, 2] rfl).app hK1
  generalize H1 = H at hP hS ⊢
  have hP : va_P (dC, dI) vwCl [(a1, .inr (4, [.int 0, .ref ed, .int 0])), (a2, .inr (4, [.int 0, .ref ed, .int 0])), (a4, .inr (4, [.int 0, .ref ed, .int 0])), (tt, .inl (cT, 24, .inl (fun _ => 0))), (rr, .inr (6, [.ref t1, .ref t2, .int 0, .int 0, .long 0, .long 0])), (b1, .inr (4, [.int 0, .ref ed, .int 0])), (b2, .inr (4, [.int 0, .ref ed, .int 0])), (b4, .inr (4, [.int 0, .ref ed, .int 0])), (b5, .inr (4, [.int 0, .ref ed, .int 0])), (ou, .inl (cO, 1, .inr (.inl (fun _ => 0)))), (od, .inl (cD, 1, .inr (.inr (.inr (.inl (fun _ => 0)))))), (x, .inr (11, [.ref a1, .ref a2, .ref a3, .ref a4, .ref tt, .int 0, .ref rr, .ref cq])), (a3, .inr (4, [.int 0, .ref ed, .int 0])), (b3, .inr (4, [.int 0, .ref ed, .int 0])), (mo, .inr (15, [.ref b1, .ref b2, .ref b3, .ref b4, .ref b5, .int 1]))] H := hP
  have hD : va_D (fun q : Nat => s.heap.size ≤ q) [(a1, .inr (4, [.int 0, .ref ed, .int 0])), (a2, .inr (4, [.int 0, .ref ed, .int 0])), (a4, .inr (4, [.int 0, .ref ed, .int 0])), (tt, .inl (cT, 24, .inl (fun _ => 0))), (rr, .inr (6, [.ref t1, .ref t2, .int 0, .int 0, .long 0, .long 0])), (b1, .inr (4, [.int 0, .ref ed, .int 0])), (b2, .inr (4, [.int 0, .ref ed, .int 0])), (b4, .inr (4, [.int 0, .ref ed, .int 0])), (b5, .inr (4, [.int 0, .ref ed, .int 0])), (ou, .inl (cO, 1, .inr (.inl (fun _ => 0)))), (od, .inl (cD, 1, .inr (.inr (.inr (.inl (fun _ => 0)))))), (x, .inr (11, [.ref a1, .ref a2, .ref a3, .ref a4, .ref tt, .int 0, .ref rr, .ref cq])), (a3, .inr (4, [.int 0, .ref ed, .int 0])), (b3, .inr (4, [.int 0, .ref ed, .int 0])), (mo, .inr (15, [.ref b1, .ref b2, .ref b3, .ref b4, .ref b5, .int 1]))] := hD
  have hK : va_K (dC, dI) vwCl [(cT, .int), (cO, .long), (cD, .double)] s := hK
  refine W.widen (k := 28) (n := 304) (Nat.le_of_ble_eq_true rfl) (Nat.le_of_ble_eq_true rfl) ?_
  have hw : r_552 = 1 := hw
  subst hw
  refine lv_iload hx hb dL_law_1080 (lv_at hl 1 rfl) ?_
  refine lv_icmp_eq (tgt := 1087) hx hb dL_law_1082 (by decide) (fun c_553 => ?_) (fun c_553 => absurd (by decide) c_553)
  refine lv_iload hx hb dL_law_1087 (lv_at hl 1 rfl) ?_
  refine lv_if_ne (tgt := 1104) hx hb dL_law_1089 (by decide) (fun c_554 => ?_) (fun c_554 => absurd c_554 (by decide))
  refine lv_goto (tgt := 3072) hx hb dL_law_1104 (by decide) ?_
  refine W.widen (k := 100) (n := 1000) (Nat.le_of_ble_eq_true rfl) (Nat.le_of_ble_eq_true rfl) ?_
  exact law_tail l C0 hS (lv_sub hl [2, 7] rfl)
