set_option maxHeartbeats 4000000 in
set_option maxRecDepth 100000 in
theorem law_case_12 {p : Program} {e : Env} {s : State} {m : MethodId} {below : List Frame} {meth : Method} {c : Code} (l : Launch) (hl9 : l.stackTraces = false) (dC : Nat → ClassId) (dI : Nat → Nat → Nat) (ed : Nat) {b : Nat} {xs : Nat → Int32} (C0 : lw_At p s m meth c b 5 xs) (hZ : pz ed (fun q : Nat => s.heap.size ≤ q) s s.heap) (x a1 a2 a3 a4 tt rr cq t1 t2 mo b1 b2 b3 b4 b5 ou od : Nat) (cT cO cD : ClassId) {H : Heap} {locs : List Loc} (hK : va_K (dC, dI) vwCl [(cT, .int), (cO, .long), (cD, .double)] s) (hP : va_P (dC, dI) vwCl [(x, .inr (11, [.ref a1, .ref a2, .ref a3, .ref a4, .ref tt, .int 0, .ref rr, .ref cq])), (a1, .inr (4, [.int 0, .ref ed, .int 0])), (a2, .inr (4, [.int 0, .ref ed, .int 0])), (a3, .inr (4, [.int 0, .ref ed, .int 0])), (a4, .inr (4, [.int 0, .ref ed, .int 0])), (tt, .inl (cT, 24, .inl (fun _ => 0))), (rr, .inr (6, [.ref t1, .ref t2, .int 0, .int 0, .long 0, .long 0])), (mo, .inr (15, [.ref b1, .ref b2, .ref b3, .ref b4, .ref b5, .int 0])), (b1, .inr (4, [.int 0, .ref ed, .int 0])), (b2, .inr (4, [.int 0, .ref ed, .int 0])), (b3, .inr (4, [.int 0, .ref ed, .int 0])), (b4, .inr (4, [.int 0, .ref ed, .int 0])), (b5, .inr (4, [.int 0, .ref ed, .int 0])), (ou, .inl (cO, 1, .inr (.inl (fun _ => 0)))), (od, .inl (cD, 1, .inr (.inr (.inr (.inl (fun _ => 0))))))] H) (hD : va_D (fun q : Nat => s.heap.size ≤ q) [(x, .inr (11, [.ref a1, .ref a2, .ref a3, .ref a4, .ref tt, .int 0, .ref rr, .ref cq])), (a1, .inr (4, [.int 0, .ref ed, .int 0])), (a2, .inr (4, [.int 0, .ref ed, .int 0])), (a3, .inr (4, [.int 0, .ref ed, .int 0])), (a4, .inr (4, [.int 0, .ref ed, .int 0])), (tt, .inl (cT, 24, .inl (fun _ => 0))), (rr, .inr (6, [.ref t1, .ref t2, .int 0, .int 0, .long 0, .long 0])), (mo, .inr (15, [.ref b1, .ref b2, .ref b3, .ref b4, .ref b5, .int 0])), (b1, .inr (4, [.int 0, .ref ed, .int 0])), (b2, .inr (4, [.int 0, .ref ed, .int 0])), (b3, .inr (4, [.int 0, .ref ed, .int 0])), (b4, .inr (4, [.int 0, .ref ed, .int 0])), (b5, .inr (4, [.int 0, .ref ed, .int 0])), (ou, .inl (cO, 1, .inr (.inl (fun _ => 0)))), (od, .inl (cD, 1, .inr (.inr (.inr (.inl (fun _ => 0))))))]) (hS : va_S (fun q : Nat => s.heap.size ≤ q) s.heap H locs) {ls : Array Slot} (hl : lv_has ls 9 [(5, .int 0), (4, .ref od), (3, .ref ou), (2, .ref mo), (1, .ref x), (0, .ref b)]) : W p l e room_1 s m #[Value.ref b] below meth c H locs 27 298 (lw_Z below #[Value.ref b] s) (F0 m 1107 ls []) := by
  obtain ⟨hx, hb, hr, hml, hown, hts0, hX, hbl, hlocks, hgv⟩ := id C0
  have hts : ∀ w ∈ pw_all, w.before #[Value.ref b] s = true := fun w h => hts0 w (pw_tbl h)
  have hA : ∀ q : Nat, s.heap.size ≤ q → (fun q : Nat => s.heap.size ≤ q) q := fun _ h => h
  have hbA : ¬ (fun q : Nat => s.heap.size ≤ q) b := Nat.not_le.mpr hbl
  refine lv_aload_n hx hb dL_law_1107 rfl (lv_at hl 4 rfl) ?_
  refine lv_aload_n hx hb dL_law_1108 rfl (lv_at hl 5 rfl) ?_
  refine lv_iload hx hb dL_law_1109 (lv_at hl 0 rfl) ?_
  refine lv_iconst (v := 1) hx hb dL_law_1111 (by decide) ?_
  refine lv_iadd hx hb dL_law_1112 ?_
  refine lv_numI (v := 1) (by decide) ?_
  refine va_sld hx hb hX hbl hbA hS (by unfold vp_in; decide) dL_law_1113 ?_
  refine lv_aload_n hx hb dL_law_1114 rfl (lv_at hl 5 rfl) ?_
  refine lv_iload hx hb dL_law_1115 (lv_at hl 0 rfl) ?_
  refine lv_iconst (v := 2) hx hb dL_law_1117 (by decide) ?_
  refine lv_iadd hx hb dL_law_1118 ?_
  refine lv_numI (v := 2) (by decide) ?_
  refine va_sld hx hb hX hbl hbA hS (by unfold vp_in; decide) dL_law_1119 ?_
  refine lv_aload_n hx hb dL_law_1120 rfl (lv_at hl 5 rfl) ?_
  refine lv_iload hx hb dL_law_1121 (lv_at hl 0 rfl) ?_
  refine lv_iconst (v := 3) hx hb dL_law_1123 (by decide) ?_
  refine lv_iadd hx hb dL_law_1124 ?_
  refine lv_numI (v := 3) (by decide) ?_
  refine va_sld hx hb hX hbl hbA hS (by unfold vp_in; decide) dL_law_1125 ?_
  refine lv_i2c (v := (((xs (Int32.toNatClampNeg 3))).toUInt32 % 65536).toInt32) hx hb dL_law_1126 rfl ?_
  refine lv_aload_n hx hb dL_law_1127 rfl (lv_at hl 2 rfl) ?_
  have hPc := hP.sub (ws' := [(x, .inr (11, [.ref a1, .ref a2, .ref a3, .ref a4, .ref tt, .int 0, .ref rr, .ref cq])), (a1, .inr (4, [.int 0, .ref ed, .int 0]))]) [0, 1] rfl
  have hDc := hD.sub (ws' := [(x, .inr (11, [.ref a1, .ref a2, .ref a3, .ref a4, .ref tt, .int 0, .ref rr, .ref cq])), (a1, .inr (4, [.int 0, .ref ed, .int 0]))]) [0, 1] (by decide) rfl
  have hKc := hK.sub (tys' := []) [] rfl
  have hFc := va_free (wc := [(x, .inr (11, [.ref a1, .ref a2, .ref a3, .ref a4, .ref tt, .int 0, .ref rr, .ref cq])), (a1, .inr (4, [.int 0, .ref ed, .int 0]))]) hD hS hA [0, 1] rfl
  refine va_calli (vx_runSW (As := [.ref x, .int (xs (Int32.toNatClampNeg 1)), .int (xs (Int32.toNatClampNeg 2)), .int ((((xs (Int32.toNatClampNeg 3))).toUInt32 % 65536).toInt32), .ref ou]) (rest := []) ⟨hx, hb, hml, hown, hts⟩ (w_addRun l hl9 dC dI H.size ed x a1 (.ref a2) (.ref a3) (.ref a4) (.ref tt) (.int 0) (.ref rr) (.ref cq) (.int 0) (.ref ed) (xs (Int32.toNatClampNeg 1)) (xs (Int32.toNatClampNeg 2)) ((((xs (Int32.toNatClampNeg 3))).toUInt32 % 65536).toInt32) ou) (vx_cwSW 5 hts (pw_S q759 q760 q42 q761) rfl rfl rfl (by decide +kernel) ⟨(Nat.le_of_ble_eq_true rfl), (Nat.le_of_ble_eq_true rfl)⟩) ⟨fun a U g mk q => by obtain ⟨q0, q1, qP, qK, qD, qZ⟩ := q; exact ⟨q0, q1, qP, va_K.moved (u := U) (U := U.calling g mk a) (Vm.Alike.refl U.vm) qK, qD, qZ.same rfl⟩, fun U hU hW => ⟨rfl, by rw [hU], by rw [hU]; exact hPc, va_K.moved hW.alike hKc, hDc.weaken (fun _ _ _ _ => trivial), hZ.call hS hFc hU hW⟩⟩ rfl rfl hl.1 rfl (lv_room (Nat.le_of_ble_eq_true rfl)) dL_law_1128 ⟨(Nat.le_of_ble_eq_true rfl), (Nat.le_of_ble_eq_true rfl)⟩) hS (fun q _ h => hFc q h) hFc (fun r_555 u t H1 locs ht hvm hw hB hz1 hk1 hS => ?_)
  obtain ⟨hP1, hK1, hD1⟩ := hB
  rw [ht] at hP1
  have hK1 := va_K.moved hvm.symm hK1
  obtain ⟨hP, hD⟩ := va_join (wr := [(a2, .inr (4, [.int 0, .ref ed, .int 0])), (a3, .inr (4, [.int 0, .ref ed, .int 0])), (a4, .inr (4, [.int 0, .ref ed, .int 0])), (tt, .inl (cT, 24, .inl (fun _ => 0))), (rr, .inr (6, [.ref t1, .ref t2, .int 0, .int 0, .long 0, .long 0])), (mo, .inr (15, [.ref b1, .ref b2, .ref b3, .ref b4, .ref b5, .int 0])), (b1, .inr (4, [.int 0, .ref ed, .int 0])), (b2, .inr (4, [.int 0, .ref ed, .int 0])), (b3, .inr (4, [.int 0, .ref ed, .int 0])), (b4, .inr (4, [.int 0, .ref ed, .int 0])), (b5, .inr (4, [.int 0, .ref ed, .int 0])), (ou, .inl (cO, 1, .inr (.inl (fun _ => 0)))), (od, .inl (cD, 1, .inr (.inr (.inr (.inl (fun _ => 0))))))]) (w1 := [(x, .inr (11, [.ref a1, .ref a2, .ref a3, .ref a4, .ref tt, .int 0, .ref rr, .ref cq])), (a1, .inr (4, [.int 0, .ref ed, .int 0]))]) hP hD [0, 1] [2, 3, 4, 5, 6, 7, 8, 9, 10, 11, 12, 13, 14] rfl rfl (by decide) (by decide) hk1 hFc hP1 hD1
  have hK := (hK.sub (tys' := [(cT, .int), (cO, .long), (cD, .double)]) [0, 1, 2] rfl).app hK1
  generalize H1 = H at hP hS ⊢
  have hP : va_P (dC, dI) vwCl [(a2, .inr (4, [.int 0, .ref ed, .int 0])), (a3, .inr (4, [.int 0, .ref ed, .int 0])), (a4, .inr (4, [.int 0, .ref ed, .int 0])), (tt, .inl (cT, 24, .inl (fun _ => 0))), (rr, .inr (6, [.ref t1, .ref t2, .int 0, .int 0, .long 0, .long 0])), (mo, .inr (15, [.ref b1, .ref b2, .ref b3, .ref b4, .ref b5, .int 0])), (b1, .inr (4, [.int 0, .ref ed, .int 0])), (b2, .inr (4, [.int 0, .ref ed, .int 0])), (b3, .inr (4, [.int 0, .ref ed, .int 0])), (b4, .inr (4, [.int 0, .ref ed, .int 0])), (b5, .inr (4, [.int 0, .ref ed, .int 0])), (ou, .inl (cO, 1, .inr (.inl (fun _ => 0)))), (od, .inl (cD, 1, .inr (.inr (.inr (.inl (fun _ => 0)))))), (x, .inr (11, [.ref a1, .ref a2, .ref a3, .ref a4, .ref tt, .int 0, .ref rr, .ref cq])), (a1, .inr (4, [.int 0, .ref ed, .int 0]))] H := hP
  have hD : va_D (fun q : Nat => s.heap.size ≤ q) [(a2, .inr (4, [.int 0, .ref ed, .int 0])), (a3, .inr (4, [.int 0, .ref ed, .int 0])), (a4, .inr (4, [.int 0, .ref ed, .int 0])), (tt, .inl (cT, 24, .inl (fun _ => 0))), (rr, .inr (6, [.ref t1, .ref t2, .int 0, .int 0, .long 0, .long 0])), (mo, .inr (15, [.ref b1, .ref b2, .ref b3, .ref b4, .ref b5, .int 0])), (b1, .inr (4, [.int 0, .ref ed, .int 0])), (b2, .inr (4, [.int 0, .ref ed, .int 0])), (b3, .inr (4, [.int 0, .ref ed, .int 0])), (b4, .inr (4, [.int 0, .ref ed, .int 0])), (b5, .inr (4, [.int 0, .ref ed, .int 0])), (ou, .inl (cO, 1, .inr (.inl (fun _ => 0)))), (od, .inl (cD, 1, .inr (.inr (.inr (.inl (fun _ => 0)))))), (x, .inr (11, [.ref a1, .ref a2, .ref a3, .ref a4, .ref tt, .int 0, .ref rr, .ref cq])), (a1, .inr (4, [.int 0, .ref ed, .int 0]))] := hD
  have hK : va_K (dC, dI) vwCl [(cT, .int), (cO, .long), (cD, .double)] s := hK
  refine W.widen (k := 28) (n := 304) (Nat.le_of_ble_eq_true rfl) (Nat.le_of_ble_eq_true rfl) ?_
  have hw : r_555 = 1 := hw
  subst hw
  refine lv_istore (lv' := [(6, .int 1), (5, .int 0), (4, .ref od), (3, .ref ou), (2, .ref mo), (1, .ref x), (0, .ref b)]) hx hb dL_law_1131 hl (by decide) rfl (fun ls hl => ?_)
  refine lv_aload_n hx hb dL_law_1133 rfl (lv_at hl 4 rfl) ?_
  refine lv_aload_n hx hb dL_law_1134 rfl (lv_at hl 6 rfl) ?_
  refine lv_iload hx hb dL_law_1135 (lv_at hl 1 rfl) ?_
  refine lv_iconst (v := 1) hx hb dL_law_1137 (by decide) ?_
  refine lv_iadd hx hb dL_law_1138 ?_
  refine lv_numI (v := 1) (by decide) ?_
  refine va_sld hx hb hX hbl hbA hS (by unfold vp_in; decide) dL_law_1139 ?_
  refine lv_aload_n hx hb dL_law_1140 rfl (lv_at hl 6 rfl) ?_
  refine lv_iload hx hb dL_law_1141 (lv_at hl 1 rfl) ?_
  refine lv_iconst (v := 2) hx hb dL_law_1143 (by decide) ?_
  refine lv_iadd hx hb dL_law_1144 ?_
  refine lv_numI (v := 2) (by decide) ?_
  refine va_sld hx hb hX hbl hbA hS (by unfold vp_in; decide) dL_law_1145 ?_
  refine lv_aload_n hx hb dL_law_1146 rfl (lv_at hl 6 rfl) ?_
  refine lv_iload hx hb dL_law_1147 (lv_at hl 1 rfl) ?_
  refine lv_iconst (v := 3) hx hb dL_law_1149 (by decide) ?_
  refine lv_iadd hx hb dL_law_1150 ?_
  refine lv_numI (v := 3) (by decide) ?_
  refine va_sld hx hb hX hbl hbA hS (by unfold vp_in; decide) dL_law_1151 ?_
  refine lv_i2c (v := (((xs (Int32.toNatClampNeg 3))).toUInt32 % 65536).toInt32) hx hb dL_law_1152 rfl ?_
  have hPc := hP.sub (ws' := [(mo, .inr (15, [.ref b1, .ref b2, .ref b3, .ref b4, .ref b5, .int 0])), (b1, .inr (4, [.int 0, .ref ed, .int 0]))]) [5, 6] rfl
  have hDc := hD.sub (ws' := [(mo, .inr (15, [.ref b1, .ref b2, .ref b3, .ref b4, .ref b5, .int 0])), (b1, .inr (4, [.int 0, .ref ed, .int 0]))]) [5, 6] (by decide) rfl
  have hKc := hK.sub (tys' := []) [] rfl
  have hFc := va_free (wc := [(mo, .inr (15, [.ref b1, .ref b2, .ref b3, .ref b4, .ref b5, .int 0])), (b1, .inr (4, [.int 0, .ref ed, .int 0]))]) hD hS hA [5, 6] rfl
  refine va_calli (va_runV (As := [.int (xs (Int32.toNatClampNeg 1)), .int (xs (Int32.toNatClampNeg 2)), .int ((((xs (Int32.toNatClampNeg 3))).toUInt32 % 65536).toInt32)]) (rest := []) ⟨hx, hb, hml, hown, hts⟩ (y_addRun l dC dI H.size mo b1 (.ref b2) (.ref b3) (.ref b4) (.ref b5) (.int 0) (.ref ed) 0 (xs (Int32.toNatClampNeg 1)) (xs (Int32.toNatClampNeg 2)) ((((xs (Int32.toNatClampNeg 3))).toUInt32 % 65536).toInt32)) (cwV 3 hts (pw_V q1452 q1453 q1454 q49 q1455) rfl rfl rfl (by decide +kernel) ⟨(Nat.le_of_ble_eq_true rfl), (Nat.le_of_ble_eq_true rfl)⟩) ⟨fun a U g mk q => by obtain ⟨q0, q1, qP, qK, qD⟩ := q; exact ⟨q0, q1, qP, va_K.moved (u := U) (U := U.calling g mk a) (Vm.Alike.refl U.vm) qK, qD⟩, va_recv hKc hPc (ci := 15) (q0 := 0) rfl rfl, fun U hU hW => ⟨rfl, by rw [hU], by rw [hU]; exact hPc, va_K.moved hW.alike hKc, hDc.weaken (fun _ _ _ _ => trivial)⟩⟩ rfl rfl hl.1 rfl (lv_room (Nat.le_of_ble_eq_true rfl)) dL_law_1153 ⟨(Nat.le_of_ble_eq_true rfl), (Nat.le_of_ble_eq_true rfl)⟩) hS (fun q _ h => hFc q h) hFc (fun r_556 u t H1 locs ht hvm hw hB hz1 hk1 hS => ?_)
  obtain ⟨hP1, hK1, hD1⟩ := hB
  rw [ht] at hP1
  have hK1 := va_K.moved hvm.symm hK1
  obtain ⟨hP, hD⟩ := va_join (wr := [(a2, .inr (4, [.int 0, .ref ed, .int 0])), (a3, .inr (4, [.int 0, .ref ed, .int 0])), (a4, .inr (4, [.int 0, .ref ed, .int 0])), (tt, .inl (cT, 24, .inl (fun _ => 0))), (rr, .inr (6, [.ref t1, .ref t2, .int 0, .int 0, .long 0, .long 0])), (b2, .inr (4, [.int 0, .ref ed, .int 0])), (b3, .inr (4, [.int 0, .ref ed, .int 0])), (b4, .inr (4, [.int 0, .ref ed, .int 0])), (b5, .inr (4, [.int 0, .ref ed, .int 0])), (ou, .inl (cO, 1, .inr (.inl (fun _ => 0)))), (od, .inl (cD, 1, .inr (.inr (.inr (.inl (fun _ => 0)))))), (x, .inr (11, [.ref a1, .ref a2, .ref a3, .ref a4, .ref tt, .int 0, .ref rr, .ref cq])), (a1, .inr (4, [.int 0, .ref ed, .int 0]))]) (w1 := [(mo, .inr (15, [.ref b1, .ref b2, .ref b3, .ref b4, .ref b5, .int 1])), (b1, .inr (4, [.int 0, .ref ed, .int 0]))]) hP hD [5, 6] [0, 1, 2, 3, 4, 7, 8, 9, 10, 11, 12, 13, 14] rfl rfl (by decide) (by decide) hk1 hFc hP1 hD1
  have hK := (hK.sub (tys' := [(cT, .int), (cO, .long), (cD, .double)]) [0, 1, 2] rfl).app hK1
  generalize H1 = H at hP hS ⊢
  have hP : va_P (dC, dI) vwCl [(a2, .inr (4, [.int 0, .ref ed, .int 0])), (a3, .inr (4, [.int 0, .ref ed, .int 0])), (a4, .inr (4, [.int 0, .ref ed, .int 0])), (tt, .inl (cT, 24, .inl (fun _ => 0))), (rr, .inr (6, [.ref t1, .ref t2, .int 0, .int 0, .long 0, .long 0])), (b2, .inr (4, [.int 0, .ref ed, .int 0])), (b3, .inr (4, [.int 0, .ref ed, .int 0])), (b4, .inr (4, [.int 0, .ref ed, .int 0])), (b5, .inr (4, [.int 0, .ref ed, .int 0])), (ou, .inl (cO, 1, .inr (.inl (fun _ => 0)))), (od, .inl (cD, 1, .inr (.inr (.inr (.inl (fun _ => 0)))))), (x, .inr (11, [.ref a1, .ref a2, .ref a3, .ref a4, .ref tt, .int 0, .ref rr, .ref cq])), (a1, .inr (4, [.int 0, .ref ed, .int 0])), (mo, .inr (15, [.ref b1, .ref b2, .ref b3, .ref b4, .ref b5, .int 1])), (b1, .inr (4, [.int 0, .ref ed, .int 0]))] H := hP
  have hD : va_D (fun q : Nat => s.heap.size ≤ q) [(a2, .inr (4, [.int 0, .ref ed, .int 0])), (a3, .inr (4, [.int 0, .ref ed, .int 0])), (a4, .inr (4, [.int 0, .ref ed, .int 0])), (tt, .inl (cT, 24, .inl (fun _ => 0))), (rr, .inr (6, [.ref t1, .ref t2, .int 0, .int 0, .long 0, .long 0])), (b2, .inr (4, [.int 0, .ref ed, .int 0])), (b3, .inr (4, [.int 0, .ref ed, .int 0])), (b4, .inr (4, [.int 0, .ref ed, .int 0])), (b5, .inr (4, [.int 0, .ref ed, .int 0])), (ou, .inl (cO, 1, .inr (.inl (fun _ => 0)))), (od, .inl (cD, 1, .inr (.inr (.inr (.inl (fun _ => 0)))))), (x, .inr (11, [.ref a1, .ref a2, .ref a3, .ref a4, .ref tt, .int 0, .ref rr, .ref cq])), (a1, .inr (4, [.int 0, .ref ed, .int 0])), (mo, .inr (15, [.ref b1, .ref b2, .ref b3, .ref b4, .ref b5, .int 1])), (b1, .inr (4, [.int 0, .ref ed, .int 0]))] := hD
  have hK : va_K (dC, dI) vwCl [(cT, .int), (cO, .long), (cD, .double)] s := hK
  refine W.widen (k := 28) (n := 304) (Nat.le_of_ble_eq_true rfl) (Nat.le_of_ble_eq_true rfl) ?_
  have hw : r_556 = 0 := hw
  subst hw
  refine lv_istore (lv' := [(7, .int 0), (6, .int 1), (5, .int 0), (4, .ref od), (3, .ref ou), (2, .ref mo), (1, .ref x), (0, .ref b)]) hx hb dL_law_1156 hl (by decide) rfl (fun ls hl => ?_)
  refine lv_aload_n hx hb dL_law_1158 rfl (lv_at hl 5 rfl) ?_
  have hPc := hP.sub (ws' := [(mo, .inr (15, [.ref b1, .ref b2, .ref b3, .ref b4, .ref b5, .int 1]))]) [13] rfl
  have hDc := hD.sub (ws' := [(mo, .inr (15, [.ref b1, .ref b2, .ref b3, .ref b4, .ref b5, .int 1]))]) [13] (by decide) rfl
  have hKc := hK.sub (tys' := []) [] rfl
  have hFc := va_free (wc := [(mo, .inr (15, [.ref b1, .ref b2, .ref b3, .ref b4, .ref b5, .int 1]))]) hD hS hA [13] rfl
  refine va_calli (va_runV (As := []) (rest := []) ⟨hx, hb, hml, hown, hts⟩ (n_thrown l dC dI H.size mo (.ref b1) (.ref b2) (.ref b3) (.ref b4) (.ref b5) 1) (cwV 0 hts (pw_V q1244 q1245 q1246 q49 q1247) rfl rfl rfl (by decide +kernel) ⟨(Nat.le_of_ble_eq_true rfl), (Nat.le_of_ble_eq_true rfl)⟩) ⟨fun a U g mk q => by obtain ⟨q0, q1, qP, qK, qD⟩ := q; exact ⟨q0, q1, qP, va_K.moved (u := U) (U := U.calling g mk a) (Vm.Alike.refl U.vm) qK, qD⟩, va_recv hKc hPc (ci := 15) (q0 := 0) rfl rfl, fun U hU hW => ⟨rfl, by rw [hU], by rw [hU]; exact hPc, va_K.moved hW.alike hKc, hDc.weaken (fun _ _ _ _ => trivial)⟩⟩ rfl rfl hl.1 rfl (lv_room (Nat.le_of_ble_eq_true rfl)) dL_law_1159 ⟨(Nat.le_of_ble_eq_true rfl), (Nat.le_of_ble_eq_true rfl)⟩) hS (fun q _ h => hFc q h) hFc (fun r_557 u t H1 locs ht hvm hw hB hz1 hk1 hS => ?_)
  obtain ⟨hP1, hK1, hD1⟩ := hB
  rw [ht] at hP1
  have hK1 := va_K.moved hvm.symm hK1
  obtain ⟨hP, hD⟩ := va_join (wr := [(a2, .inr (4, [.int 0, .ref ed, .int 0])), (a3, .inr (4, [.int 0, .ref ed, .int 0])), (a4, .inr (4, [.int 0, .ref ed, .int 0])), (tt, .inl (cT, 24, .inl (fun _ => 0))), (rr, .inr (6, [.ref t1, .ref t2, .int 0, .int 0, .long 0, .long 0])), (b2, .inr (4, [.int 0, .ref ed, .int 0])), (b3, .inr (4, [.int 0, .ref ed, .int 0])), (b4, .inr (4, [.int 0, .ref ed, .int 0])), (b5, .inr (4, [.int 0, .ref ed, .int 0])), (ou, .inl (cO, 1, .inr (.inl (fun _ => 0)))), (od, .inl (cD, 1, .inr (.inr (.inr (.inl (fun _ => 0)))))), (x, .inr (11, [.ref a1, .ref a2, .ref a3, .ref a4, .ref tt, .int 0, .ref rr, .ref cq])), (a1, .inr (4, [.int 0, .ref ed, .int 0])), (b1, .inr (4, [.int 0, .ref ed, .int 0]))]) (w1 := [(mo, .inr (15, [.ref b1, .ref b2, .ref b3, .ref b4, .ref b5, .int 1]))]) hP hD [13] [0, 1, 2, 3, 4, 5, 6, 7, 8, 9, 10, 11, 12, 14] rfl rfl (by decide) (by decide) hk1 hFc hP1 hD1
  have hK := (hK.sub (tys' := [(cT, .int), (cO, .long), (cD, .double)]) [0, 1, 2] rfl).app hK1
  generalize H1 = H at hP hS ⊢
  have hP : va_P (dC, dI) vwCl [(a2, .inr (4, [.int 0, .ref ed, .int 0])), (a3, .inr (4, [.int 0, .ref ed, .int 0])), (a4, .inr (4, [.int 0, .ref ed, .int 0])), (tt, .inl (cT, 24, .inl (fun _ => 0))), (rr, .inr (6, [.ref t1, .ref t2, .int 0, .int 0, .long 0, .long 0])), (b2, .inr (4, [.int 0, .ref ed, .int 0])), (b3, .inr (4, [.int 0, .ref ed, .int 0])), (b4, .inr (4, [.int 0, .ref ed, .int 0])), (b5, .inr (4, [.int 0, .ref ed, .int 0])), (ou, .inl (cO, 1, .inr (.inl (fun _ => 0)))), (od, .inl (cD, 1, .inr (.inr (.inr (.inl (fun _ => 0)))))), (x, .inr (11, [.ref a1, .ref a2, .ref a3, .ref a4, .ref tt, .int 0, .ref rr, .ref cq])), (a1, .inr (4, [.int 0, .ref ed, .int 0])), (b1, .inr (4, [.int 0, .ref ed, .int 0])), (mo, .inr (15, [.ref b1, .ref b2, .ref b3, .ref b4, .ref b5, .int 1]))] H := hP
  have hD : va_D (fun q : Nat => s.heap.size ≤ q) [(a2, .inr (4, [.int 0, .ref ed, .int 0])), (a3, .inr (4, [.int 0, .ref ed, .int 0])), (a4, .inr (4, [.int 0, .ref ed, .int 0])), (tt, .inl (cT, 24, .inl (fun _ => 0))), (rr, .inr (6, [.ref t1, .ref t2, .int 0, .int 0, .long 0, .long 0])), (b2, .inr (4, [.int 0, .ref ed, .int 0])), (b3, .inr (4, [.int 0, .ref ed, .int 0])), (b4, .inr (4, [.int 0, .ref ed, .int 0])), (b5, .inr (4, [.int 0, .ref ed, .int 0])), (ou, .inl (cO, 1, .inr (.inl (fun _ => 0)))), (od, .inl (cD, 1, .inr (.inr (.inr (.inl (fun _ => 0)))))), (x, .inr (11, [.ref a1, .ref a2, .ref a3, .ref a4, .ref tt, .int 0, .ref rr, .ref cq])), (a1, .inr (4, [.int 0, .ref ed, .int 0])), (b1, .inr (4, [.int 0, .ref ed, .int 0])), (mo, .inr (15, [.ref b1, .ref b2, .ref b3, .ref b4, .ref b5, .int 1]))] := hD
  have hK : va_K (dC, dI) vwCl [(cT, .int), (cO, .long), (cD, .double)] s := hK
  refine W.widen (k := 28) (n := 304) (Nat.le_of_ble_eq_true rfl) (Nat.le_of_ble_eq_true rfl) ?_
  have hw : r_557 = 1 := hw
  subst hw
  refine lv_iload hx hb dL_law_1162 (lv_at hl 1 rfl) ?_
  refine lv_icmp_eq (tgt := 1169) hx hb dL_law_1164 (by decide) (fun c_558 => ?_) (fun c_558 => absurd (by decide) c_558)
  refine lv_iload hx hb dL_law_1169 (lv_at hl 1 rfl) ?_
  refine lv_if_ne (tgt := 1186) hx hb dL_law_1171 (by decide) (fun c_559 => ?_) (fun c_559 => absurd c_559 (by decide))
  refine lv_goto (tgt := 3072) hx hb dL_law_1186 (by decide) ?_
  refine W.widen (k := 100) (n := 1000) (Nat.le_of_ble_eq_true rfl) (Nat.le_of_ble_eq_true rfl) ?_
  exact law_tail l C0 hS (lv_sub hl [2, 7] rfl)
set_option maxHeartbeats 4000000 in
set_option maxRecDepth 100000 in
theorem law_case_13 {p : Program} {e : Env} {s : State} {m : MethodId} {below : List Frame} {meth : Method} {c : Code} (l : Launch) (hl9 : l.stackTraces = false) (dC : Nat → ClassId) (dI : Nat → Nat → Nat) (ed : Nat) {b : Nat} {xs : Nat → Int32} (C0 : lw_At p s m meth c b 5 xs) (hZ : pz ed (fun q : Nat => s.heap.size ≤ q) s s.heap) (x a1 a2 a3 a4 tt rr cq t1 t2 mo b1 b2 b3 b4 b5 ou od : Nat) (cT cO cD : ClassId) {H : Heap} {locs : List Loc} (hK : va_K (dC, dI) vwCl [(cT, .int), (cO, .long), (cD, .double)] s) (hP : va_P (dC, dI) vwCl [(x, .inr (11, [.ref a1, .ref a2, .ref a3, .ref a4, .ref tt, .int 0, .ref rr, .ref cq])), (a1, .inr (4, [.int 0, .ref ed, .int 0])), (a2, .inr (4, [.int 0, .ref ed, .int 0])), (a3, .inr (4, [.int 0, .ref ed, .int 0])), (a4, .inr (4, [.int 0, .ref ed, .int 0])), (tt, .inl (cT, 24, .inl (fun _ => 0))), (rr, .inr (6, [.ref t1, .ref t2, .int 0, .int 0, .long 0, .long 0])), (mo, .inr (15, [.ref b1, .ref b2, .ref b3, .ref b4, .ref b5, .int 0])), (b1, .inr (4, [.int 0, .ref ed, .int 0])), (b2, .inr (4, [.int 0, .ref ed, .int 0])), (b3, .inr (4, [.int 0, .ref ed, .int 0])), (b4, .inr (4, [.int 0, .ref ed, .int 0])), (b5, .inr (4, [.int 0, .ref ed, .int 0])), (ou, .inl (cO, 1, .inr (.inl (fun _ => 0)))), (od, .inl (cD, 1, .inr (.inr (.inr (.inl (fun _ => 0))))))] H) (hD : va_D (fun q : Nat => s.heap.size ≤ q) [(x, .inr (11, [.ref a1, .ref a2, .ref a3, .ref a4, .ref tt, .int 0, .ref rr, .ref cq])), (a1, .inr (4, [.int 0, .ref ed, .int 0])), (a2, .inr (4, [.int 0, .ref ed, .int 0])), (a3, .inr (4, [.int 0, .ref ed, .int 0])), (a4, .inr (4, [.int 0, .ref ed, .int 0])), (tt, .inl (cT, 24, .inl (fun _ => 0))), (rr, .inr (6, [.ref t1, .ref t2, .int 0, .int 0, .long 0, .long 0])), (mo, .inr (15, [.ref b1, .ref b2, .ref b3, .ref b4, .ref b5, .int 0])), (b1, .inr (4, [.int 0, .ref ed, .int 0])), (b2, .inr (4, [.int 0, .ref ed, .int 0])), (b3, .inr (4, [.int 0, .ref ed, .int 0])), (b4, .inr (4, [.int 0, .ref ed, .int 0])), (b5, .inr (4, [.int 0, .ref ed, .int 0])), (ou, .inl (cO, 1, .inr (.inl (fun _ => 0)))), (od, .inl (cD, 1, .inr (.inr (.inr (.inl (fun _ => 0))))))]) (hS : va_S (fun q : Nat => s.heap.size ≤ q) s.heap H locs) {ls : Array Slot} (hl : lv_has ls 9 [(5, .int 0), (4, .ref od), (3, .ref ou), (2, .ref mo), (1, .ref x), (0, .ref b)]) : W p l e room_1 s m #[Value.ref b] below meth c H locs 27 298 (lw_Z below #[Value.ref b] s) (F0 m 1189 ls []) := by
  obtain ⟨hx, hb, hr, hml, hown, hts0, hX, hbl, hlocks, hgv⟩ := id C0
  have hts : ∀ w ∈ pw_all, w.before #[Value.ref b] s = true := fun w h => hts0 w (pw_tbl h)
  have hA : ∀ q : Nat, s.heap.size ≤ q → (fun q : Nat => s.heap.size ≤ q) q := fun _ h => h
  have hbA : ¬ (fun q : Nat => s.heap.size ≤ q) b := Nat.not_le.mpr hbl
  refine lv_aload_n hx hb dL_law_1189 rfl (lv_at hl 4 rfl) ?_
  refine lv_aload_n hx hb dL_law_1190 rfl (lv_at hl 5 rfl) ?_
  refine lv_iload hx hb dL_law_1191 (lv_at hl 0 rfl) ?_
  refine lv_iconst (v := 1) hx hb dL_law_1193 (by decide) ?_
  refine lv_iadd hx hb dL_law_1194 ?_
  refine lv_numI (v := 1) (by decide) ?_
  refine va_sld hx hb hX hbl hbA hS (by unfold vp_in; decide) dL_law_1195 ?_
  refine lv_aload_n hx hb dL_law_1196 rfl (lv_at hl 5 rfl) ?_
  refine lv_iload hx hb dL_law_1197 (lv_at hl 0 rfl) ?_
  refine lv_iconst (v := 2) hx hb dL_law_1199 (by decide) ?_
  refine lv_iadd hx hb dL_law_1200 ?_
  refine lv_numI (v := 2) (by decide) ?_
  refine va_sld hx hb hX hbl hbA hS (by unfold vp_in; decide) dL_law_1201 ?_
  refine lv_aload_n hx hb dL_law_1202 rfl (lv_at hl 5 rfl) ?_
  refine lv_iload hx hb dL_law_1203 (lv_at hl 0 rfl) ?_
  refine lv_iconst (v := 3) hx hb dL_law_1205 (by decide) ?_
  refine lv_iadd hx hb dL_law_1206 ?_
  refine lv_numI (v := 3) (by decide) ?_
  refine va_sld hx hb hX hbl hbA hS (by unfold vp_in; decide) dL_law_1207 ?_
  refine lv_aload_n hx hb dL_law_1208 rfl (lv_at hl 2 rfl) ?_
  have hPc := hP.sub (ws' := [(x, .inr (11, [.ref a1, .ref a2, .ref a3, .ref a4, .ref tt, .int 0, .ref rr, .ref cq])), (a4, .inr (4, [.int 0, .ref ed, .int 0]))]) [0, 4] rfl
  have hDc := hD.sub (ws' := [(x, .inr (11, [.ref a1, .ref a2, .ref a3, .ref a4, .ref tt, .int 0, .ref rr, .ref cq])), (a4, .inr (4, [.int 0, .ref ed, .int 0]))]) [0, 4] (by decide) rfl
  have hKc := hK.sub (tys' := []) [] rfl
  have hFc := va_free (wc := [(x, .inr (11, [.ref a1, .ref a2, .ref a3, .ref a4, .ref tt, .int 0, .ref rr, .ref cq])), (a4, .inr (4, [.int 0, .ref ed, .int 0]))]) hD hS hA [0, 4] rfl
  refine va_calli (vx_runSW (As := [.ref x, .int (xs (Int32.toNatClampNeg 1)), .int (xs (Int32.toNatClampNeg 2)), .int (xs (Int32.toNatClampNeg 3)), .ref ou]) (rest := []) ⟨hx, hb, hml, hown, hts⟩ (w_addControl l hl9 dC dI H.size ed x a4 (.ref a1) (.ref a2) (.ref a3) (.ref tt) (.int 0) (.ref rr) (.ref cq) (.int 0) (.ref ed) (xs (Int32.toNatClampNeg 1)) (xs (Int32.toNatClampNeg 2)) (xs (Int32.toNatClampNeg 3)) ou) (vx_cwSW 5 hts (pw_S q834 q835 q42 q836) rfl rfl rfl (by decide +kernel) ⟨(Nat.le_of_ble_eq_true rfl), (Nat.le_of_ble_eq_true rfl)⟩) ⟨fun a U g mk q => by obtain ⟨q0, q1, qP, qK, qD, qZ⟩ := q; exact ⟨q0, q1, qP, va_K.moved (u := U) (U := U.calling g mk a) (Vm.Alike.refl U.vm) qK, qD, qZ.same rfl⟩, fun U hU hW => ⟨rfl, by rw [hU], by rw [hU]; exact hPc, va_K.moved hW.alike hKc, hDc.weaken (fun _ _ _ _ => trivial), hZ.call hS hFc hU hW⟩⟩ rfl rfl hl.1 rfl (lv_room (Nat.le_of_ble_eq_true rfl)) dL_law_1209 ⟨(Nat.le_of_ble_eq_true rfl), (Nat.le_of_ble_eq_true rfl)⟩) hS (fun q _ h => hFc q h) hFc (fun r_560 u t H1 locs ht hvm hw hB hz1 hk1 hS => ?_)
  obtain ⟨hP1, hK1, hD1⟩ := hB
  rw [ht] at hP1
  have hK1 := va_K.moved hvm.symm hK1
  obtain ⟨hP, hD⟩ := va_join (wr := [(a1, .inr (4, [.int 0, .ref ed, .int 0])), (a2, .inr (4, [.int 0, .ref ed, .int 0])), (a3, .inr (4, [.int 0, .ref ed, .int 0])), (tt, .inl (cT, 24, .inl (fun _ => 0))), (rr, .inr (6, [.ref t1, .ref t2, .int 0, .int 0, .long 0, .long 0])), (mo, .inr (15, [.ref b1, .ref b2, .ref b3, .ref b4, .ref b5, .int 0])), (b1, .inr (4, [.int 0, .ref ed, .int 0])), (b2, .inr (4, [.int 0, .ref ed, .int 0])), (b3, .inr (4, [.int 0, .ref ed, .int 0])), (b4, .inr (4, [.int 0, .ref ed, .int 0])), (b5, .inr (4, [.int 0, .ref ed, .int 0])), (ou, .inl (cO, 1, .inr (.inl (fun _ => 0)))), (od, .inl (cD, 1, .inr (.inr (.inr (.inl (fun _ => 0))))))]) (w1 := [(x, .inr (11, [.ref a1, .ref a2, .ref a3, .ref a4, .ref tt, .int 0, .ref rr, .ref cq])), (a4, .inr (4, [.int 0, .ref ed, .int 0]))]) hP hD [0, 4] [1, 2, 3, 5, 6, 7, 8, 9, 10, 11, 12, 13, 14] rfl rfl (by decide) (by decide) hk1 hFc hP1 hD1
  have hK := (hK.sub (tys' := [(cT, .int), (cO, .long), (cD, .double)]) [0, 1, 2] rfl).app hK1
  generalize H1 = H at hP hS ⊢
  have hP : va_P (dC, dI) vwCl [(a1, .inr (4, [.int 0, .ref ed, .int 0])), (a2, .inr (4, [.int 0, .ref ed, .int 0])), (a3, .inr (4, [.int 0, .ref ed, .int 0])), (tt, .inl (cT, 24, .inl (fun _ => 0))), (rr, .inr (6, [.ref t1, .ref t2, .int 0, .int 0, .long 0, .long 0])), (mo, .inr (15, [.ref b1, .ref b2, .ref b3, .ref b4, .ref b5, .int 0])), (b1, .inr (4, [.int 0, .ref ed, .int 0])), (b2, .inr (4, [.int 0, .ref ed, .int 0])), (b3, .inr (4, [.int 0, .ref ed, .int 0])), (b4, .inr (4, [.int 0, .ref ed, .int 0])), (b5, .inr (4, [.int 0, .ref ed, .int 0])), (ou, .inl (cO, 1, .inr (.inl (fun _ => 0)))), (od, .inl (cD, 1, .inr (.inr (.inr (.inl (fun _ => 0)))))), (x, .inr (11, [.ref a1, .ref a2, .ref a3, .ref a4, .ref tt, .int 0, .ref rr, .ref cq])), (a4, .inr (4, [.int 0, .ref ed, .int 0]))] H := hP
  have hD : va_D (fun q : Nat => s.heap.size ≤ q) [(a1, .inr (4, [.int 0, .ref ed, .int 0])), (a2, .inr (4, [.int 0, .ref ed, .int 0])), (a3, .inr (4, [.int 0, .ref ed, .int 0])), (tt, .inl (cT, 24, .inl (fun _ => 0))), (rr, .inr (6, [.ref t1, .ref t2, .int 0, .int 0, .long 0, .long 0])), (mo, .inr (15, [.ref b1, .ref b2, .ref b3, .ref b4, .ref b5, .int 0])), (b1, .inr (4, [.int 0, .ref ed, .int 0])), (b2, .inr (4, [.int 0, .ref ed, .int 0])), (b3, .inr (4, [.int 0, .ref ed, .int 0])), (b4, .inr (4, [.int 0, .ref ed, .int 0])), (b5, .inr (4, [.int 0, .ref ed, .int 0])), (ou, .inl (cO, 1, .inr (.inl (fun _ => 0)))), (od, .inl (cD, 1, .inr (.inr (.inr (.inl (fun _ => 0)))))), (x, .inr (11, [.ref a1, .ref a2, .ref a3, .ref a4, .ref tt, .int 0, .ref rr, .ref cq])), (a4, .inr (4, [.int 0, .ref ed, .int 0]))] := hD
  have hK : va_K (dC, dI) vwCl [(cT, .int), (cO, .long), (cD, .double)] s := hK
  refine W.widen (k := 28) (n := 304) (Nat.le_of_ble_eq_true rfl) (Nat.le_of_ble_eq_true rfl) ?_
  have hw : r_560 = 1 := hw
  subst hw
  refine lv_istore (lv' := [(6, .int 1), (5, .int 0), (4, .ref od), (3, .ref ou), (2, .ref mo), (1, .ref x), (0, .ref b)]) hx hb dL_law_1212 hl (by decide) rfl (fun ls hl => ?_)
  refine lv_aload_n hx hb dL_law_1214 rfl (lv_at hl 4 rfl) ?_
  refine lv_aload_n hx hb dL_law_1215 rfl (lv_at hl 6 rfl) ?_
  refine lv_iload hx hb dL_law_1216 (lv_at hl 1 rfl) ?_
  refine lv_iconst (v := 1) hx hb dL_law_1218 (by decide) ?_
  refine lv_iadd hx hb dL_law_1219 ?_
  refine lv_numI (v := 1) (by decide) ?_
  refine va_sld hx hb hX hbl hbA hS (by unfold vp_in; decide) dL_law_1220 ?_
  refine lv_aload_n hx hb dL_law_1221 rfl (lv_at hl 6 rfl) ?_
  refine lv_iload hx hb dL_law_1222 (lv_at hl 1 rfl) ?_
  refine lv_iconst (v := 2) hx hb dL_law_1224 (by decide) ?_
  refine lv_iadd hx hb dL_law_1225 ?_
  refine lv_numI (v := 2) (by decide) ?_
  refine va_sld hx hb hX hbl hbA hS (by unfold vp_in; decide) dL_law_1226 ?_
  refine lv_aload_n hx hb dL_law_1227 rfl (lv_at hl 6 rfl) ?_
  refine lv_iload hx hb dL_law_1228 (lv_at hl 1 rfl) ?_
  refine lv_iconst (v := 3) hx hb dL_law_1230 (by decide) ?_
  refine lv_iadd hx hb dL_law_1231 ?_
  refine lv_numI (v := 3) (by decide) ?_
  refine va_sld hx hb hX hbl hbA hS (by unfold vp_in; decide) dL_law_1232 ?_
  have hPc := hP.sub (ws' := [(mo, .inr (15, [.ref b1, .ref b2, .ref b3, .ref b4, .ref b5, .int 0])), (b4, .inr (4, [.int 0, .ref ed, .int 0]))]) [5, 9] rfl
  have hDc := hD.sub (ws' := [(mo, .inr (15, [.ref b1, .ref b2, .ref b3, .ref b4, .ref b5, .int 0])), (b4, .inr (4, [.int 0, .ref ed, .int 0]))]) [5, 9] (by decide) rfl
  have hKc := hK.sub (tys' := []) [] rfl
  have hFc := va_free (wc := [(mo, .inr (15, [.ref b1, .ref b2, .ref b3, .ref b4, .ref b5, .int 0])), (b4, .inr (4, [.int 0, .ref ed, .int 0]))]) hD hS hA [5, 9] rfl
  refine va_calli (va_runV (As := [.int (xs (Int32.toNatClampNeg 1)), .int (xs (Int32.toNatClampNeg 2)), .int (xs (Int32.toNatClampNeg 3))]) (rest := []) ⟨hx, hb, hml, hown, hts⟩ (y_addControl l dC dI H.size mo b4 (.ref b1) (.ref b2) (.ref b3) (.ref b5) (.int 0) (.ref ed) 0 (xs (Int32.toNatClampNeg 1)) (xs (Int32.toNatClampNeg 2)) (xs (Int32.toNatClampNeg 3))) (cwV 3 hts (pw_V q1514 q1515 q1516 q49 q1517) rfl rfl rfl (by decide +kernel) ⟨(Nat.le_of_ble_eq_true rfl), (Nat.le_of_ble_eq_true rfl)⟩) ⟨fun a U g mk q => by obtain ⟨q0, q1, qP, qK, qD⟩ := q; exact ⟨q0, q1, qP, va_K.moved (u := U) (U := U.calling g mk a) (Vm.Alike.refl U.vm) qK, qD⟩, va_recv hKc hPc (ci := 15) (q0 := 0) rfl rfl, fun U hU hW => ⟨rfl, by rw [hU], by rw [hU]; exact hPc, va_K.moved hW.alike hKc, hDc.weaken (fun _ _ _ _ => trivial)⟩⟩ rfl rfl hl.1 rfl (lv_room (Nat.le_of_ble_eq_true rfl)) dL_law_1233 ⟨(Nat.le_of_ble_eq_true rfl), (Nat.le_of_ble_eq_true rfl)⟩) hS (fun q _ h => hFc q h) hFc (fun r_561 u t H1 locs ht hvm hw hB hz1 hk1 hS => ?_)
  obtain ⟨hP1, hK1, hD1⟩ := hB
  rw [ht] at hP1
  have hK1 := va_K.moved hvm.symm hK1
  obtain ⟨hP, hD⟩ := va_join (wr := [(a1, .inr (4, [.int 0, .ref ed, .int 0])), (a2, .inr (4, [.int 0, .ref ed, .int 0])), (a3, .inr (4, [.int 0, .ref ed, .int 0])), (tt, .inl (cT, 24, .inl (fun _ => 0))), (rr, .inr (6, [.ref t1, .ref t2, .int 0, .int 0, .long 0, .long 0])), (b1, .inr (4, [.int 0, .ref ed, .int 0])), (b2, .inr (4, [.int 0, .ref ed, .int 0])), (b3, .inr (4, [.int 0, .ref ed, .int 0])), (b5, .inr (4, [.int 0, .ref ed, .int 0])), (ou, .inl (cO, 1, .inr (.inl (fun _ => 0)))), (od, .inl (cD, 1, .inr (.inr (.inr (.inl (fun _ => 0)))))), (x, .inr (11, [.ref a1, .ref a2, .ref a3, .ref a4, .ref tt, .int 0, .ref rr, .ref cq])), (a4, .inr (4, [.int 0, .ref ed, .int 0]))]) (w1 := [(mo, .inr (15, [.ref b1, .ref b2, .ref b3, .ref b4, .ref b5, .int 1])), (b4, .inr (4, [.int 0, .ref ed, .int 0]))]) hP hD [5, 9] [0, 1, 2, 3, 4, 6, 7, 8, 10, 11, 12, 13, 14] rfl rfl (by decide) (by decide) hk1 hFc hP1 hD1
  have hK := (hK.sub (tys' := [(cT, .int), (cO, .long), (cD, .double)]) [0, 1, 2] rfl).app hK1
  generalize H1 = H at hP hS ⊢
  have hP : va_P (dC, dI) vwCl [(a1, .inr (4, [.int 0, .ref ed, .int 0])), (a2, .inr (4, [.int 0, .ref ed, .int 0])), (a3, .inr (4, [.int 0, .ref ed, .int 0])), (tt, .inl (cT, 24, .inl (fun _ => 0))), (rr, .inr (6, [.ref t1, .ref t2, .int 0, .int 0, .long 0, .long 0])), (b1, .inr (4, [.int 0, .ref ed, .int 0])), (b2, .inr (4, [.int 0, .ref ed, .int 0])), (b3, .inr (4, [.int 0, .ref ed, .int 0])), (b5, .inr (4, [.int 0, .ref ed, .int 0])), (ou, .inl (cO, 1, .inr (.inl (fun _ => 0)))), (od, .inl (cD, 1, .inr (.inr (.inr (.inl (fun _ => 0)))))), (x, .inr (11, [.ref a1, .ref a2, .ref a3, .ref a4, .ref tt, .int 0, .ref rr, .ref cq])), (a4, .inr (4, [.int 0, .ref ed, .int 0])), (mo, .inr (15, [.ref b1, .ref b2, .ref b3, .ref b4, .ref b5, .int 1])), (b4, .inr (4, [.int 0, .ref ed, .int 0]))] H := hP
  have hD : va_D (fun q : Nat => s.heap.size ≤ q) [(a1, .inr (4, [.int 0, .ref ed, .int 0])), (a2, .inr (4, [.int 0, .ref ed, .int 0])), (a3, .inr (4, [.int 0, .ref ed, .int 0])), (tt, .inl (cT, 24, .inl (fun _ => 0))), (rr, .inr (6, [.ref t1, .ref t2, .int 0, .int 0, .long 0, .long 0])), (b1, .inr (4, [.int 0, .ref ed, .int 0])), (b2, .inr (4, [.int 0, .ref ed, .int 0])), (b3, .inr (4, [.int 0, .ref ed, .int 0])), (b5, .inr (4, [.int 0, .ref ed, .int 0])), (ou, .inl (cO, 1, .inr (.inl (fun _ => 0)))), (od, .inl (cD, 1, .inr (.inr (.inr (.inl (fun _ => 0)))))), (x, .inr (11, [.ref a1, .ref a2, .ref a3, .ref a4, .ref tt, .int 0, .ref rr, .ref cq])), (a4, .inr (4, [.int 0, .ref ed, .int 0])), (mo, .inr (15, [.ref b1, .ref b2, .ref b3, .ref b4, .ref b5, .int 1])), (b4, .inr (4, [.int 0, .ref ed, .int 0]))] := hD
  have hK : va_K (dC, dI) vwCl [(cT, .int), (cO, .long), (cD, .double)] s := hK
  refine W.widen (k := 28) (n := 304) (Nat.le_of_ble_eq_true rfl) (Nat.le_of_ble_eq_true rfl) ?_
  have hw : r_561 = 0 := hw
  subst hw
  refine lv_istore (lv' := [(7, .int 0), (6, .int 1), (5, .int 0), (4, .ref od), (3, .ref ou), (2, .ref mo), (1, .ref x), (0, .ref b)]) hx hb dL_law_1236 hl (by decide) rfl (fun ls hl => ?_)
  refine lv_aload_n hx hb dL_law_1238 rfl (lv_at hl 5 rfl) ?_
  have hPc := hP.sub (ws' := [(mo, .inr (15, [.ref b1, .ref b2, .ref b3, .ref b4, .ref b5, .int 1]))]) [13] rfl
  have hDc := hD.sub (ws' := [(mo, .inr (15, [.ref b1, .ref b2, .ref b3, .ref b4, .ref b5, .int 1]))]) [13] (by decide) rfl
  have hKc := hK.sub (tys' := []) [] rfl
  have hFc := va_free (wc := [(mo, .inr (15, [.ref b1, .ref b2, .ref b3, .ref b4, .ref b5, .int 1]))]) hD hS hA [13] rfl
  refine va_calli (va_runV (As := []) (rest := []) ⟨hx, hb, hml, hown, hts⟩ (n_thrown l dC dI H.size mo (.ref b1) (.ref b2) (.ref b3) (.ref b4) (.ref b5) 1) (cwV 0 hts (pw_V q1244 q1245 q1246 q49 q1247) rfl rfl rfl (by decide +kernel) ⟨(Nat.le_of_ble_eq_true rfl), (Nat.le_of_ble_eq_true rfl)⟩) ⟨fun a U g mk q => by obtain ⟨q0, q1, qP, qK, qD⟩ := q; exact ⟨q0, q1, qP, va_K.moved (u := U) (U := U.calling g mk a) (Vm.Alike.refl U.vm) qK, qD⟩, va_recv hKc hPc (ci := 15) (q0 := 0) rfl rfl, fun U hU hW => ⟨rfl, by rw [hU], by rw [hU]; exact hPc, va_K.moved hW.alike hKc, hDc.weaken (fun _ _ _ _ => trivial)⟩⟩ rfl rfl hl.1 rfl (lv_room (Nat.le_of_ble_eq_true rfl)) dL_law_1239 ⟨(Nat.le_of_ble_eq_true rfl), (Nat.le_of_ble_eq_true rfl)⟩) hS (fun q _ h => hFc q h) hFc (fun r_562 u t H1 locs ht hvm hw hB hz1 hk1 hS => ?_)
  obtain ⟨hP1, hK1, hD1⟩ := hB
  rw [ht] at hP1
  have hK1 := va_K.moved hvm.symm hK1
  obtain ⟨hP, hD⟩ := va_join (wr := [(a1, .inr (4, [.int 0, .ref ed, .int 0])), (a2, .inr (4, [.int 0, .ref ed, .int 0])), (a3, .inr (4, [.int 0, .ref ed, .int 0])), (tt, .inl (cT, 24, .inl (fun _ => 0))), (rr, .inr (6, [.ref t1, .ref t2, .int 0, .int 0, .long 0, .long 0])), (b1, .inr (4, [.int 0, .ref ed, .int 0])), (b2, .inr (4, [.int 0, .ref ed, .int 0])), (b3, .inr (4, [.int 0, .ref ed, .int 0])), (b5, .inr (4, [.int 0, .ref ed, .int 0])), (ou, .inl (cO, 1, .inr (.inl (fun _ => 0)))), (od, .inl (cD, 1, .inr (.inr (.inr (.inl (fun _ => 0)))))), (x, .inr (11, [.ref a1, .ref a2, .ref a3, .ref a4, .ref tt, .int 0, .ref rr, .ref cq])), (a4, .inr (4, [.int 0, .ref ed, .int 0])), (b4, .inr (4, [.int 0, .ref ed, .int 0]))]) (w1 := [(mo, .inr (15, [.ref b1, .ref b2, .ref b3, .ref b4, .ref b5, .int 1]))]) hP hD [13] [0, 1, 2, 3, 4, 5, 6, 7, 8, 9, 10, 11, 12, 14] rfl rfl (by decide) (by decide) hk1 hFc hP1 hD1
  have hK := (hK.sub (tys' := [(cT, .int), (cO, .long), (cD, .double)]) [0, 1, 2] rfl).app hK1
  generalize H1 = H at hP hS ⊢
  have hP : va_P (dC, dI) vwCl [(a1, .inr (4, [.int 0, .ref ed, .int 0])), (a2, .inr (4, [.int 0, .ref ed, .int 0])), (a3, .inr (4, [.int 0, .ref ed, .int 0])), (tt, .inl (cT, 24, .inl (fun _ => 0))), (rr, .inr (6, [.ref t1, .ref t2, .int 0, .int 0, .long 0, .long 0])), (b1, .inr (4, [.int 0, .ref ed, .int 0])), (b2, .inr (4, [.int 0, .ref ed, .int 0])), (b3, .inr (4, [.int 0, .ref ed, .int 0])), (b5, .inr (4, [.int 0, .ref ed, .int 0])), (ou, .inl (cO, 1, .inr (.inl (fun _ => 0)))), (od, .inl (cD, 1, .inr (.inr (.inr (.inl (fun _ => 0)))))), (x, .inr (11, [.ref a1, .ref a2, .ref a3, .ref a4, .ref tt, .int 0, .ref rr, .ref cq])), (a4, .inr (4, [.int 0, .ref ed, .int 0])), (b4, .inr (4, [.int 0, .ref ed, .int 0])), (mo, .inr (15, [.ref b1, .ref b2, .ref b3, .ref b4, .ref b5, .int 1]))] H := hP
  have hD : va_D (fun q : Nat => s.heap.size ≤ q) [(a1, .inr (4, [.int 0, .ref ed, .int 0])), (a2, .inr (4, [.int 0, .ref ed, .int 0])), (a3, .inr (4, [.int 0, .ref ed, .int 0])), (tt, .inl (cT, 24, .inl (fun _ => 0))), (rr, .inr (6, [.ref t1, .ref t2, .int 0, .int 0, .long 0, .long 0])), (b1, .inr (4, [.int 0, .ref ed, .int 0])), (b2, .inr (4, [.int 0, .ref ed, .int 0])), (b3, .inr (4, [.int 0, .ref ed, .int 0])), (b5, .inr (4, [.int 0, .ref ed, .int 0])), (ou, .inl (cO, 1, .inr (.inl (fun _ => 0)))), (od, .inl (cD, 1, .inr (.inr (.inr (.inl (fun _ => 0)))))), (x, .inr (11, [.ref a1, .ref a2, .ref a3, .ref a4, .ref tt, .int 0, .ref rr, .ref cq])), (a4, .inr (4, [.int 0, .ref ed, .int 0])), (b4, .inr (4, [.int 0, .ref ed, .int 0])), (mo, .inr (15, [.ref b1, .ref b2, .ref b3, .ref b4, .ref b5, .int 1]))] := hD
  have hK : va_K (dC, dI) vwCl [(cT, .int), (cO, .long), (cD, .double)] s := hK
  refine W.widen (k := 28) (n := 304) (Nat.le_of_ble_eq_true rfl) (Nat.le_of_ble_eq_true rfl) ?_
  have hw : r_562 = 1 := hw
  subst hw
  refine lv_iload hx hb dL_law_1242 (lv_at hl 1 rfl) ?_
  refine lv_icmp_eq (tgt := 1249) hx hb dL_law_1244 (by decide) (fun c_563 => ?_) (fun c_563 => absurd (by decide) c_563)
  refine lv_iload hx hb dL_law_1249 (lv_at hl 1 rfl) ?_
  refine lv_if_ne (tgt := 1266) hx hb dL_law_1251 (by decide) (fun c_564 => ?_) (fun c_564 => absurd c_564 (by decide))
  refine lv_goto (tgt := 3072) hx hb dL_law_1266 (by decide) ?_
  refine W.widen (k := 100) (n := 1000) (Nat.le_of_ble_eq_true rfl) (Nat.le_of_ble_eq_true rfl) ?_
  exact law_tail l C0 hS (lv_sub hl [2, 7] rfl)
set_option maxHeartbeats 4000000 in
set_option maxRecDepth 100000 in
theorem law_case_14 {p : Program} {e : Env} {s : State} {m : MethodId} {below : List Frame} {meth : Method} {c : Code} (l : Launch) (hl9 : l.stackTraces = false) (dC : Nat → ClassId) (dI : Nat → Nat → Nat) (ed : Nat) {b : Nat} {xs : Nat → Int32} (C0 : lw_At p s m meth c b 5 xs) (hZ : pz ed (fun q : Nat => s.heap.size ≤ q) s s.heap) (x a1 a2 a3 a4 tt rr cq t1 t2 mo b1 b2 b3 b4 b5 ou od : Nat) (cT cO cD : ClassId) {H : Heap} {locs : List Loc} (hK : va_K (dC, dI) vwCl [(cT, .int), (cO, .long), (cD, .double)] s) (hP : va_P (dC, dI) vwCl [(x, .inr (11, [.ref a1, .ref a2, .ref a3, .ref a4, .ref tt, .int 0, .ref rr, .ref cq])), (a1, .inr (4, [.int 0, .ref ed, .int 0])), (a2, .inr (4, [.int 0, .ref ed, .int 0])), (a3, .inr (4, [.int 0, .ref ed, .int 0])), (a4, .inr (4, [.int 0, .ref ed, .int 0])), (tt, .inl (cT, 24, .inl (fun _ => 0))), (rr, .inr (6, [.ref t1, .ref t2, .int 0, .int 0, .long 0, .long 0])), (mo, .inr (15, [.ref b1, .ref b2, .ref b3, .ref b4, .ref b5, .int 0])), (b1, .inr (4, [.int 0, .ref ed, .int 0])), (b2, .inr (4, [.int 0, .ref ed, .int 0])), (b3, .inr (4, [.int 0, .ref ed, .int 0])), (b4, .inr (4, [.int 0, .ref ed, .int 0])), (b5, .inr (4, [.int 0, .ref ed, .int 0])), (ou, .inl (cO, 1, .inr (.inl (fun _ => 0)))), (od, .inl (cD, 1, .inr (.inr (.inr (.inl (fun _ => 0))))))] H) (hD : va_D (fun q : Nat => s.heap.size ≤ q) [(x, .inr (11, [.ref a1, .ref a2, .ref a3, .ref a4, .ref tt, .int 0, .ref rr, .ref cq])), (a1, .inr (4, [.int 0, .ref ed, .int 0])), (a2, .inr (4, [.int 0, .ref ed, .int 0])), (a3, .inr (4, [.int 0, .ref ed, .int 0])), (a4, .inr (4, [.int 0, .ref ed, .int 0])), (tt, .inl (cT, 24, .inl (fun _ => 0))), (rr, .inr (6, [.ref t1, .ref t2, .int 0, .int 0, .long 0, .long 0])), (mo, .inr (15, [.ref b1, .ref b2, .ref b3, .ref b4, .ref b5, .int 0])), (b1, .inr (4, [.int 0, .ref ed, .int 0])), (b2, .inr (4, [.int 0, .ref ed, .int 0])), (b3, .inr (4, [.int 0, .ref ed, .int 0])), (b4, .inr (4, [.int 0, .ref ed, .int 0])), (b5, .inr (4, [.int 0, .ref ed, .int 0])), (ou, .inl (cO, 1, .inr (.inl (fun _ => 0)))), (od, .inl (cD, 1, .inr (.inr (.inr (.inl (fun _ => 0))))))]) (hS : va_S (fun q : Nat => s.heap.size ≤ q) s.heap H locs) {ls : Array Slot} (hl : lv_has ls 9 [(5, .int 0), (4, .ref od), (3, .ref ou), (2, .ref mo), (1, .ref x), (0, .ref b)]) : W p l e room_1 s m #[Value.ref b] below meth c H locs 27 298 (lw_Z below #[Value.ref b] s) (F0 m 1269 ls []) := by
  obtain ⟨hx, hb, hr, hml, hown, hts0, hX, hbl, hlocks, hgv⟩ := id C0
  have hts : ∀ w ∈ pw_all, w.before #[Value.ref b] s = true := fun w h => hts0 w (pw_tbl h)
  have hA : ∀ q : Nat, s.heap.size ≤ q → (fun q : Nat => s.heap.size ≤ q) q := fun _ h => h
  have hbA : ¬ (fun q : Nat => s.heap.size ≤ q) b := Nat.not_le.mpr hbl
  refine lv_aload_n hx hb dL_law_1269 rfl (lv_at hl 4 rfl) ?_
  refine lv_aload_n hx hb dL_law_1270 rfl (lv_at hl 5 rfl) ?_
  refine lv_iload hx hb dL_law_1271 (lv_at hl 0 rfl) ?_
  refine lv_iconst (v := 1) hx hb dL_law_1273 (by decide) ?_
  refine lv_iadd hx hb dL_law_1274 ?_
  refine lv_numI (v := 1) (by decide) ?_
  refine va_sld hx hb hX hbl hbA hS (by unfold vp_in; decide) dL_law_1275 ?_
  refine lv_aload_n hx hb dL_law_1276 rfl (lv_at hl 5 rfl) ?_
  refine lv_iload hx hb dL_law_1277 (lv_at hl 0 rfl) ?_
  refine lv_iconst (v := 2) hx hb dL_law_1279 (by decide) ?_
  refine lv_iadd hx hb dL_law_1280 ?_
  refine lv_numI (v := 2) (by decide) ?_
  refine va_sld hx hb hX hbl hbA hS (by unfold vp_in; decide) dL_law_1281 ?_
  refine lv_aload_n hx hb dL_law_1282 rfl (lv_at hl 2 rfl) ?_
  have hPc := hP.sub (ws' := [(x, .inr (11, [.ref a1, .ref a2, .ref a3, .ref a4, .ref tt, .int 0, .ref rr, .ref cq])), (a4, .inr (4, [.int 0, .ref ed, .int 0]))]) [0, 4] rfl
  have hDc := hD.sub (ws' := [(x, .inr (11, [.ref a1, .ref a2, .ref a3, .ref a4, .ref tt, .int 0, .ref rr, .ref cq])), (a4, .inr (4, [.int 0, .ref ed, .int 0]))]) [0, 4] (by decide) rfl
  have hKc := hK.sub (tys' := []) [] rfl
  have hFc := va_free (wc := [(x, .inr (11, [.ref a1, .ref a2, .ref a3, .ref a4, .ref tt, .int 0, .ref rr, .ref cq])), (a4, .inr (4, [.int 0, .ref ed, .int 0]))]) hD hS hA [0, 4] rfl
  refine va_calli (vx_runSW (As := [.ref x, .int (xs (Int32.toNatClampNeg 1)), .int (xs (Int32.toNatClampNeg 2)), .ref ou]) (rest := []) ⟨hx, hb, hml, hown, hts⟩ (w_getBand l hl9 dC dI H.size ed x a4 (.ref a1) (.ref a2) (.ref a3) (.ref tt) (.int 0) (.ref rr) (.ref cq) (.int 0) (.ref ed) (xs (Int32.toNatClampNeg 1)) (xs (Int32.toNatClampNeg 2)) ou) (vx_cwSW 4 hts (pw_S q856 q857 q42 q858) rfl rfl rfl (by decide +kernel) ⟨(Nat.le_of_ble_eq_true rfl), (Nat.le_of_ble_eq_true rfl)⟩) ⟨fun a U g mk q => by obtain ⟨q0, q1, qP, qK, qD, qZ⟩ := q; exact ⟨q0, q1, qP, va_K.moved (u := U) (U := U.calling g mk a) (Vm.Alike.refl U.vm) qK, qD, qZ.same rfl⟩, fun U hU hW => ⟨rfl, by rw [hU], by rw [hU]; exact hPc, va_K.moved hW.alike hKc, hDc.weaken (fun _ _ _ _ => trivial), hZ.call hS hFc hU hW⟩⟩ rfl rfl hl.1 rfl (lv_room (Nat.le_of_ble_eq_true rfl)) dL_law_1283 ⟨(Nat.le_of_ble_eq_true rfl), (Nat.le_of_ble_eq_true rfl)⟩) hS (fun q _ h => hFc q h) hFc (fun r_565 u t H1 locs ht hvm hw hB hz1 hk1 hS => ?_)
  obtain ⟨hP1, hK1, hD1⟩ := hB
  rw [ht] at hP1
  have hK1 := va_K.moved hvm.symm hK1
  obtain ⟨hP, hD⟩ := va_join (wr := [(a1, .inr (4, [.int 0, .ref ed, .int 0])), (a2, .inr (4, [.int 0, .ref ed, .int 0])), (a3, .inr (4, [.int 0, .ref ed, .int 0])), (tt, .inl (cT, 24, .inl (fun _ => 0))), (rr, .inr (6, [.ref t1, .ref t2, .int 0, .int 0, .long 0, .long 0])), (mo, .inr (15, [.ref b1, .ref b2, .ref b3, .ref b4, .ref b5, .int 0])), (b1, .inr (4, [.int 0, .ref ed, .int 0])), (b2, .inr (4, [.int 0, .ref ed, .int 0])), (b3, .inr (4, [.int 0, .ref ed, .int 0])), (b4, .inr (4, [.int 0, .ref ed, .int 0])), (b5, .inr (4, [.int 0, .ref ed, .int 0])), (ou, .inl (cO, 1, .inr (.inl (fun _ => 0)))), (od, .inl (cD, 1, .inr (.inr (.inr (.inl (fun _ => 0))))))]) (w1 := [(x, .inr (11, [.ref a1, .ref a2, .ref a3, .ref a4, .ref tt, .int 0, .ref rr, .ref cq])), (a4, .inr (4, [.int 0, .ref ed, .int 0]))]) hP hD [0, 4] [1, 2, 3, 5, 6, 7, 8, 9, 10, 11, 12, 13, 14] rfl rfl (by decide) (by decide) hk1 hFc hP1 hD1
  have hK := (hK.sub (tys' := [(cT, .int), (cO, .long), (cD, .double)]) [0, 1, 2] rfl).app hK1
  generalize H1 = H at hP hS ⊢
  have hP : va_P (dC, dI) vwCl [(a1, .inr (4, [.int 0, .ref ed, .int 0])), (a2, .inr (4, [.int 0, .ref ed, .int 0])), (a3, .inr (4, [.int 0, .ref ed, .int 0])), (tt, .inl (cT, 24, .inl (fun _ => 0))), (rr, .inr (6, [.ref t1, .ref t2, .int 0, .int 0, .long 0, .long 0])), (mo, .inr (15, [.ref b1, .ref b2, .ref b3, .ref b4, .ref b5, .int 0])), (b1, .inr (4, [.int 0, .ref ed, .int 0])), (b2, .inr (4, [.int 0, .ref ed, .int 0])), (b3, .inr (4, [.int 0, .ref ed, .int 0])), (b4, .inr (4, [.int 0, .ref ed, .int 0])), (b5, .inr (4, [.int 0, .ref ed, .int 0])), (ou, .inl (cO, 1, .inr (.inl (fun _ => 0)))), (od, .inl (cD, 1, .inr (.inr (.inr (.inl (fun _ => 0)))))), (x, .inr (11, [.ref a1, .ref a2, .ref a3, .ref a4, .ref tt, .int 0, .ref rr, .ref cq])), (a4, .inr (4, [.int 0, .ref ed, .int 0]))] H := hP
  have hD : va_D (fun q : Nat => s.heap.size ≤ q) [(a1, .inr (4, [.int 0, .ref ed, .int 0])), (a2, .inr (4, [.int 0, .ref ed, .int 0])), (a3, .inr (4, [.int 0, .ref ed, .int 0])), (tt, .inl (cT, 24, .inl (fun _ => 0))), (rr, .inr (6, [.ref t1, .ref t2, .int 0, .int 0, .long 0, .long 0])), (mo, .inr (15, [.ref b1, .ref b2, .ref b3, .ref b4, .ref b5, .int 0])), (b1, .inr (4, [.int 0, .ref ed, .int 0])), (b2, .inr (4, [.int 0, .ref ed, .int 0])), (b3, .inr (4, [.int 0, .ref ed, .int 0])), (b4, .inr (4, [.int 0, .ref ed, .int 0])), (b5, .inr (4, [.int 0, .ref ed, .int 0])), (ou, .inl (cO, 1, .inr (.inl (fun _ => 0)))), (od, .inl (cD, 1, .inr (.inr (.inr (.inl (fun _ => 0)))))), (x, .inr (11, [.ref a1, .ref a2, .ref a3, .ref a4, .ref tt, .int 0, .ref rr, .ref cq])), (a4, .inr (4, [.int 0, .ref ed, .int 0]))] := hD
  have hK : va_K (dC, dI) vwCl [(cT, .int), (cO, .long), (cD, .double)] s := hK
  refine W.widen (k := 28) (n := 304) (Nat.le_of_ble_eq_true rfl) (Nat.le_of_ble_eq_true rfl) ?_
  have hw : r_565 = 1 := hw
  subst hw
  refine lv_istore (lv' := [(6, .int 1), (5, .int 0), (4, .ref od), (3, .ref ou), (2, .ref mo), (1, .ref x), (0, .ref b)]) hx hb dL_law_1286 hl (by decide) rfl (fun ls hl => ?_)
  refine lv_aload_n hx hb dL_law_1288 rfl (lv_at hl 4 rfl) ?_
  refine lv_aload_n hx hb dL_law_1289 rfl (lv_at hl 6 rfl) ?_
  refine lv_iload hx hb dL_law_1290 (lv_at hl 1 rfl) ?_
  refine lv_iconst (v := 1) hx hb dL_law_1292 (by decide) ?_
  refine lv_iadd hx hb dL_law_1293 ?_
  refine lv_numI (v := 1) (by decide) ?_
  refine va_sld hx hb hX hbl hbA hS (by unfold vp_in; decide) dL_law_1294 ?_
  refine lv_aload_n hx hb dL_law_1295 rfl (lv_at hl 6 rfl) ?_
  refine lv_iload hx hb dL_law_1296 (lv_at hl 1 rfl) ?_
  refine lv_iconst (v := 2) hx hb dL_law_1298 (by decide) ?_
  refine lv_iadd hx hb dL_law_1299 ?_
  refine lv_numI (v := 2) (by decide) ?_
  refine va_sld hx hb hX hbl hbA hS (by unfold vp_in; decide) dL_law_1300 ?_
  have hPc := hP.sub (ws' := [(mo, .inr (15, [.ref b1, .ref b2, .ref b3, .ref b4, .ref b5, .int 0])), (b4, .inr (4, [.int 0, .ref ed, .int 0]))]) [5, 9] rfl
  have hDc := hD.sub (ws' := [(mo, .inr (15, [.ref b1, .ref b2, .ref b3, .ref b4, .ref b5, .int 0])), (b4, .inr (4, [.int 0, .ref ed, .int 0]))]) [5, 9] (by decide) rfl
  have hKc := hK.sub (tys' := []) [] rfl
  have hFc := va_free (wc := [(mo, .inr (15, [.ref b1, .ref b2, .ref b3, .ref b4, .ref b5, .int 0])), (b4, .inr (4, [.int 0, .ref ed, .int 0]))]) hD hS hA [5, 9] rfl
  refine va_calli (va_runV (As := [.int (xs (Int32.toNatClampNeg 1)), .int (xs (Int32.toNatClampNeg 2))]) (rest := []) ⟨hx, hb, hml, hown, hts⟩ (y_getBand l dC dI H.size mo b4 (.ref b1) (.ref b2) (.ref b3) (.ref b5) (.int 0) (.ref ed) 0 (xs (Int32.toNatClampNeg 1)) (xs (Int32.toNatClampNeg 2))) (cwV 2 hts (pw_V q1579 q1580 q1581 q49 q1582) rfl rfl rfl (by decide +kernel) ⟨(Nat.le_of_ble_eq_true rfl), (Nat.le_of_ble_eq_true rfl)⟩) ⟨fun a U g mk q => by obtain ⟨q0, q1, qP, qK, qD⟩ := q; exact ⟨q0, q1, qP, va_K.moved (u := U) (U := U.calling g mk a) (Vm.Alike.refl U.vm) qK, qD⟩, va_recv hKc hPc (ci := 15) (q0 := 0) rfl rfl, fun U hU hW => ⟨rfl, by rw [hU], by rw [hU]; exact hPc, va_K.moved hW.alike hKc, hDc.weaken (fun _ _ _ _ => trivial)⟩⟩ rfl rfl hl.1 rfl (lv_room (Nat.le_of_ble_eq_true rfl)) dL_law_1301 ⟨(Nat.le_of_ble_eq_true rfl), (Nat.le_of_ble_eq_true rfl)⟩) hS (fun q _ h => hFc q h) hFc (fun r_566 u t H1 locs ht hvm hw hB hz1 hk1 hS => ?_)
  obtain ⟨hP1, hK1, hD1⟩ := hB
  rw [ht] at hP1
  have hK1 := va_K.moved hvm.symm hK1
  obtain ⟨hP, hD⟩ := va_join (wr := [(a1, .inr (4, [.int 0, .ref ed, .int 0])), (a2, .inr (4, [.int 0, .ref ed, .int 0])), (a3, .inr (4, [.int 0, .ref ed, .int 0])), (tt, .inl (cT, 24, .inl (fun _ => 0))), (rr, .inr (6, [.ref t1, .ref t2, .int 0, .int 0, .long 0, .long 0])), (b1, .inr (4, [.int 0, .ref ed, .int 0])), (b2, .inr (4, [.int 0, .ref ed, .int 0])), (b3, .inr (4, [.int 0, .ref ed, .int 0])), (b5, .inr (4, [.int 0, .ref ed, .int 0])), (ou, .inl (cO, 1, .inr (.inl (fun _ => 0)))), (od, .inl (cD, 1, .inr (.inr (.inr (.inl (fun _ => 0)))))), (x, .inr (11, [.ref a1, .ref a2, .ref a3, .ref a4, .ref tt, .int 0, .ref rr, .ref cq])), (a4, .inr (4, [.int 0, .ref ed, .int 0]))]) (w1 := [(mo, .inr (15, [.ref b1, .ref b2, .ref b3, .ref b4, .ref b5, .int 1])), (b4, .inr (4, [.int 0, .ref ed, .int 0]))]) hP hD [5, 9] [0, 1, 2, 3, 4, 6, 7, 8, 10, 11, 12, 13, 14] rfl rfl (by decide) (by decide) hk1 hFc hP1 hD1
  have hK := (hK.sub (tys' := [(cT, .int), (cO, .long), (cD, .double)]) [0, 1, 2] rfl).app hK1
  generalize H1 = H at hP hS ⊢
  have hP : va_P (dC, dI) vwCl [(a1, .inr (4, [.int 0, .ref ed, .int 0])), (a2, .inr (4, [.int 0, .ref ed, .int 0])), (a3, .inr (4, [.int 0, .ref ed, .int 0])), (tt, .inl (cT, 24, .inl (fun _ => 0))), (rr, .inr (6, [.ref t1, .ref t2, .int 0, .int 0, .long 0, .long 0])), (b1, .inr (4, [.int 0, .ref ed, .int 0])), (b2, .inr (4, [.int 0, .ref ed, .int 0])), (b3, .inr (4, [.int 0, .ref ed, .int 0])), (b5, .inr (4, [.int 0, .ref ed, .int 0])), (ou, .inl (cO, 1, .inr (.inl (fun _ => 0)))), (od, .inl (cD, 1, .inr (.inr (.inr (.inl (fun _ => 0)))))), (x, .inr (11, [.ref a1, .ref a2, .ref a3, .ref a4, .ref tt, .int 0, .ref rr, .ref cq])), (a4, .inr (4, [.int 0, .ref ed, .int 0])), (mo, .inr (15, [.ref b1, .ref b2, .ref b3, .ref b4, .ref b5, .int 1])), (b4, .inr (4, [.int 0, .ref ed, .int 0]))] H := hP
  have hD : va_D (fun q : Nat => s.heap.size ≤ q) [(a1, .inr (4, [.int 0, .ref ed, .int 0])), (a2, .inr (4, [.int 0, .ref ed, .int 0])), (a3, .inr (4, [.int 0, .ref ed, .int 0])), (tt, .inl (cT, 24, .inl (fun _ => 0))), (rr, .inr (6, [.ref t1, .ref t2, .int 0, .int 0, .long 0, .long 0])), (b1, .inr (4, [.int 0, .ref ed, .int 0])), (b2, .inr (4, [.int 0, .ref ed, .int 0])), (b3, .inr (4, [.int 0, .ref ed, .int 0])), (b5, .inr (4, [.int 0, .ref ed, .int 0])), (ou, .inl (cO, 1, .inr (.inl (fun _ => 0)))), (od, .inl (cD, 1, .inr (.inr (.inr (.inl (fun _ => 0)))))), (x, .inr (11, [.ref a1, .ref a2, .ref a3, .ref a4, .ref tt, .int 0, .ref rr, .ref cq])), (a4, .inr (4, [.int 0, .ref ed, .int 0])), (mo, .inr (15, [.ref b1, .ref b2, .ref b3, .ref b4, .ref b5, .int 1])), (b4, .inr (4, [.int 0, .ref ed, .int 0]))] := hD
  have hK : va_K (dC, dI) vwCl [(cT, .int), (cO, .long), (cD, .double)] s := hK
  refine W.widen (k := 28) (n := 304) (Nat.le_of_ble_eq_true rfl) (Nat.le_of_ble_eq_true rfl) ?_
  have hw : r_566 = 0 := hw
  subst hw
  refine lv_istore (lv' := [(7, .int 0), (6, .int 1), (5, .int 0), (4, .ref od), (3, .ref ou), (2, .ref mo), (1, .ref x), (0, .ref b)]) hx hb dL_law_1304 hl (by decide) rfl (fun ls hl => ?_)
  refine lv_aload_n hx hb dL_law_1306 rfl (lv_at hl 5 rfl) ?_
  have hPc := hP.sub (ws' := [(mo, .inr (15, [.ref b1, .ref b2, .ref b3, .ref b4, .ref b5, .int 1]))]) [13] rfl
  have hDc := hD.sub (ws' := [(mo, .inr (15, [.ref b1, .ref b2, .ref b3, .ref b4, .ref b5, .int 1]))]) [13] (by decide) rfl
  have hKc := hK.sub (tys' := []) [] rfl
  have hFc := va_free (wc := [(mo, .inr (15, [.ref b1, .ref b2, .ref b3, .ref b4, .ref b5, .int 1]))]) hD hS hA [13] rfl
  refine va_calli (va_runV (As := []) (rest := []) ⟨hx, hb, hml, hown, hts⟩ (n_thrown l dC dI H.size mo (.ref b1) (.ref b2) (.ref b3) (.ref b4) (.ref b5) 1) (cwV 0 hts (pw_V q1244 q1245 q1246 q49 q1247) rfl rfl rfl (by decide +kernel) ⟨(Nat.le_of_ble_eq_true rfl), (Nat.le_of_ble_eq_true rfl)⟩) ⟨fun a U g mk q => by obtain ⟨q0, q1, qP, qK, qD⟩ := q; exact ⟨q0, q1, qP, va_K.moved (u := U) (U := U.calling g mk a) (Vm.Alike.refl U.vm) qK, qD⟩, va_recv hKc hPc (ci := 15) (q0 := 0) rfl rfl, fun U hU hW => ⟨rfl, by rw [hU], by rw [hU]; exact hPc, va_K.moved hW.alike hKc, hDc.weaken (fun _ _ _ _ => trivial)⟩⟩ rfl rfl hl.1 rfl (lv_room (Nat.le_of_ble_eq_true rfl)) dL_law_1307 ⟨(Nat.le_of_ble_eq_true rfl), (Nat.le_of_ble_eq_true rfl)⟩) hS (fun q _ h => hFc q h) hFc (fun r_567 u t H1 locs ht hvm hw hB hz1 hk1 hS => ?_)
  obtain ⟨hP1, hK1, hD1⟩ := hB
  rw [ht] at hP1
  have hK1 := va_K.moved hvm.symm hK1
  obtain ⟨hP, hD⟩ := va_join (wr := [(a1, .inr (4, [.int 0, .ref ed, .int 0])), (a2, .inr (4, [.int 0, .ref ed, .int 0])), (a3, .inr (4, [.int 0, .ref ed, .int 0])), (tt, .inl (cT, 24, .inl (fun _ => 0))), (rr, .inr (6, [.ref t1, .ref t2, .int 0, .int 0, .long 0, .long 0])), (b1, .inr (4, [.int 0, .ref ed, .int 0])), (b2, .inr (4, [.int 0, .ref ed, .int 0])), (b3, .inr (4, [.int 0, .ref ed, .int 0])), (b5, .inr (4, [.int 0, .ref ed, .int 0])), (ou, .inl (cO, 1, .inr (.inl (fun _ => 0)))), (od, .inl (cD, 1, .inr (.inr (.inr (.inl (fun _ => 0)))))), (x, .inr (11, [.ref a1, .ref a2, .ref a3, .ref a4, .ref tt, .int 0, .ref rr, .ref cq])), (a4, .inr (4, [.int 0, .ref ed, .int 0])), (b4, .inr (4, [.int 0, .ref ed, .int 0]))]) (w1 := [(mo, .inr (15, [.ref b1, .ref b2, .ref b3, .ref b4, .ref b5, .int 1]))]) hP hD [13] [0, 1, 2, 3, 4, 5, 6, 7, 8, 9, 10, 11, 12, 14] rfl rfl (by decide) (by decide) hk1 hFc hP1 hD1
  have hK := (hK.sub (tys' := [(cT, .int), (cO, .long), (cD, .double)]) [0, 1, 2] rfl).app hK1
  generalize H1 = H at hP hS ⊢
  have hP : va_P (dC, dI) vwCl [(a1, .inr (4, [.int 0, .ref ed, .int 0])), (a2, .inr (4, [.int 0, .ref ed, .int 0])), (a3, .inr (4, [.int 0, .ref ed, .int 0])), (tt, .inl (cT, 24, .inl (fun _ => 0))), (rr, .inr (6, [.ref t1, .ref t2, .int 0, .int 0, .long 0, .long 0])), (b1, .inr (4, [.int 0, .ref ed, .int 0])), (b2, .inr (4, [.int 0, .ref ed, .int 0])), (b3, .inr (4, [.int 0, .ref ed, .int 0])), (b5, .inr (4, [.int 0, .ref ed, .int 0])), (ou, .inl (cO, 1, .inr (.inl (fun _ => 0)))), (od, .inl (cD, 1, .inr (.inr (.inr (.inl (fun _ => 0)))))), (x, .inr (11, [.ref a1, .ref a2, .ref a3, .ref a4, .ref tt, .int 0, .ref rr, .ref cq])), (a4, .inr (4, [.int 0, .ref ed, .int 0])), (b4, .inr (4, [.int 0, .ref ed, .int 0])), (mo, .inr (15, [.ref b1, .ref b2, .ref b3, .ref b4, .ref b5, .int 1]))] H := hP
  have hD : va_D (fun q : Nat => s.heap.size ≤ q) [(a1, .inr (4, [.int 0, .ref ed, .int 0])), (a2, .inr (4, [.int 0, .ref ed, .int 0])), (a3, .inr (4, [.int 0, .ref ed, .int 0])), (tt, .inl (cT, 24, .inl (fun _ => 0))), (rr, .inr (6, [.ref t1, .ref t2, .int 0, .int 0, .long 0, .long 0])), (b1, .inr (4, [.int 0, .ref ed, .int 0])), (b2, .inr (4, [.int 0, .ref ed, .int 0])), (b3, .inr (4, [.int 0, .ref ed, .int 0])), (b5, .inr (4, [.int 0, .ref ed, .int 0])), (ou, .inl (cO, 1, .inr (.inl (fun _ => 0)))), (od, .inl (cD, 1, .inr (.inr (.inr (.inl (fun _ => 0)))))), (x, .inr (11, [.ref a1, .ref a2, .ref a3, .ref a4, .ref tt, .int 0, .ref rr, .ref cq])), (a4, .inr (4, [.int 0, .ref ed, .int 0])), (b4, .inr (4, [.int 0, .ref ed, .int 0])), (mo, .inr (15, [.ref b1, .ref b2, .ref b3, .ref b4, .ref b5, .int 1]))] := hD
  have hK : va_K (dC, dI) vwCl [(cT, .int), (cO, .long), (cD, .double)] s := hK
  refine W.widen (k := 28) (n := 304) (Nat.le_of_ble_eq_true rfl) (Nat.le_of_ble_eq_true rfl) ?_
  have hw : r_567 = 1 := hw
  subst hw
  refine lv_iload hx hb dL_law_1310 (lv_at hl 1 rfl) ?_
  refine lv_icmp_eq (tgt := 1317) hx hb dL_law_1312 (by decide) (fun c_568 => ?_) (fun c_568 => absurd (by decide) c_568)
  refine lv_iload hx hb dL_law_1317 (lv_at hl 1 rfl) ?_
  refine lv_if_ne (tgt := 1334) hx hb dL_law_1319 (by decide) (fun c_569 => ?_) (fun c_569 => absurd c_569 (by decide))
  refine lv_goto (tgt := 3072) hx hb dL_law_1334 (by decide) ?_
  refine W.widen (k := 100) (n := 1000) (Nat.le_of_ble_eq_true rfl) (Nat.le_of_ble_eq_true rfl) ?_
  exact law_tail l C0 hS (lv_sub hl [2, 7] rfl)
set_option maxHeartbeats 4000000 in
set_option maxRecDepth 100000 in
theorem law_case_15 {p : Program} {e : Env} {s : State} {m : MethodId} {below : List Frame} {meth : Method} {c : Code} (l : Launch) (hl9 : l.stackTraces = false) (dC : Nat → ClassId) (dI : Nat → Nat → Nat) (ed : Nat) {b : Nat} {xs : Nat → Int32} (C0 : lw_At p s m meth c b 5 xs) (hZ : pz ed (fun q : Nat => s.heap.size ≤ q) s s.heap) (x a1 a2 a3 a4 tt rr cq t1 t2 mo b1 b2 b3 b4 b5 ou od : Nat) (cT cO cD : ClassId) {H : Heap} {locs : List Loc} (hK : va_K (dC, dI) vwCl [(cT, .int), (cO, .long), (cD, .double)] s) (hP : va_P (dC, dI) vwCl [(x, .inr (11, [.ref a1, .ref a2, .ref a3, .ref a4, .ref tt, .int 0, .ref rr, .ref cq])), (a1, .inr (4, [.int 0, .ref ed, .int 0])), (a2, .inr (4, [.int 0, .ref ed, .int 0])), (a3, .inr (4, [.int 0, .ref ed, .int 0])), (a4, .inr (4, [.int 0, .ref ed, .int 0])), (tt, .inl (cT, 24, .inl (fun _ => 0))), (rr, .inr (6, [.ref t1, .ref t2, .int 0, .int 0, .long 0, .long 0])), (mo, .inr (15, [.ref b1, .ref b2, .ref b3, .ref b4, .ref b5, .int 0])), (b1, .inr (4, [.int 0, .ref ed, .int 0])), (b2, .inr (4, [.int 0, .ref ed, .int 0])), (b3, .inr (4, [.int 0, .ref ed, .int 0])), (b4, .inr (4, [.int 0, .ref ed, .int 0])), (b5, .inr (4, [.int 0, .ref ed, .int 0])), (ou, .inl (cO, 1, .inr (.inl (fun _ => 0)))), (od, .inl (cD, 1, .inr (.inr (.inr (.inl (fun _ => 0))))))] H) (hD : va_D (fun q : Nat => s.heap.size ≤ q) [(x, .inr (11, [.ref a1, .ref a2, .ref a3, .ref a4, .ref tt, .int 0, .ref rr, .ref cq])), (a1, .inr (4, [.int 0, .ref ed, .int 0])), (a2, .inr (4, [.int 0, .ref ed, .int 0])), (a3, .inr (4, [.int 0, .ref ed, .int 0])), (a4, .inr (4, [.int 0, .ref ed, .int 0])), (tt, .inl (cT, 24, .inl (fun _ => 0))), (rr, .inr (6, [.ref t1, .ref t2, .int 0, .int 0, .long 0, .long 0])), (mo, .inr (15, [.ref b1, .ref b2, .ref b3, .ref b4, .ref b5, .int 0])), (b1, .inr (4, [.int 0, .ref ed, .int 0])), (b2, .inr (4, [.int 0, .ref ed, .int 0])), (b3, .inr (4, [.int 0, .ref ed, .int 0])), (b4, .inr (4, [.int 0, .ref ed, .int 0])), (b5, .inr (4, [.int 0, .ref ed, .int 0])), (ou, .inl (cO, 1, .inr (.inl (fun _ => 0)))), (od, .inl (cD, 1, .inr (.inr (.inr (.inl (fun _ => 0))))))]) (hS : va_S (fun q : Nat => s.heap.size ≤ q) s.heap H locs) {ls : Array Slot} (hl : lv_has ls 9 [(5, .int 0), (4, .ref od), (3, .ref ou), (2, .ref mo), (1, .ref x), (0, .ref b)]) : W p l e room_1 s m #[Value.ref b] below meth c H locs 27 298 (lw_Z below #[Value.ref b] s) (F0 m 1337 ls []) := by
  obtain ⟨hx, hb, hr, hml, hown, hts0, hX, hbl, hlocks, hgv⟩ := id C0
  have hts : ∀ w ∈ pw_all, w.before #[Value.ref b] s = true := fun w h => hts0 w (pw_tbl h)
  have hA : ∀ q : Nat, s.heap.size ≤ q → (fun q : Nat => s.heap.size ≤ q) q := fun _ h => h
  have hbA : ¬ (fun q : Nat => s.heap.size ≤ q) b := Nat.not_le.mpr hbl
  refine lv_aload_n hx hb dL_law_1337 rfl (lv_at hl 4 rfl) ?_
  refine lv_aload_n hx hb dL_law_1338 rfl (lv_at hl 5 rfl) ?_
  refine lv_iload hx hb dL_law_1339 (lv_at hl 0 rfl) ?_
  refine lv_iconst (v := 1) hx hb dL_law_1341 (by decide) ?_
  refine lv_iadd hx hb dL_law_1342 ?_
  refine lv_numI (v := 1) (by decide) ?_
  refine va_sld hx hb hX hbl hbA hS (by unfold vp_in; decide) dL_law_1343 ?_
  refine lv_aload_n hx hb dL_law_1344 rfl (lv_at hl 5 rfl) ?_
  refine lv_iload hx hb dL_law_1345 (lv_at hl 0 rfl) ?_
  refine lv_iconst (v := 2) hx hb dL_law_1347 (by decide) ?_
  refine lv_iadd hx hb dL_law_1348 ?_
  refine lv_numI (v := 2) (by decide) ?_
  refine va_sld hx hb hX hbl hbA hS (by unfold vp_in; decide) dL_law_1349 ?_
  refine lv_aload_n hx hb dL_law_1350 rfl (lv_at hl 2 rfl) ?_
  have hPc := hP.sub (ws' := [(x, .inr (11, [.ref a1, .ref a2, .ref a3, .ref a4, .ref tt, .int 0, .ref rr, .ref cq])), (a4, .inr (4, [.int 0, .ref ed, .int 0]))]) [0, 4] rfl
  have hDc := hD.sub (ws' := [(x, .inr (11, [.ref a1, .ref a2, .ref a3, .ref a4, .ref tt, .int 0, .ref rr, .ref cq])), (a4, .inr (4, [.int 0, .ref ed, .int 0]))]) [0, 4] (by decide) rfl
  have hKc := hK.sub (tys' := []) [] rfl
  have hFc := va_free (wc := [(x, .inr (11, [.ref a1, .ref a2, .ref a3, .ref a4, .ref tt, .int 0, .ref rr, .ref cq])), (a4, .inr (4, [.int 0, .ref ed, .int 0]))]) hD hS hA [0, 4] rfl
  refine va_calli (vx_runSW (As := [.ref x, .int (xs (Int32.toNatClampNeg 1)), .int (xs (Int32.toNatClampNeg 2)), .ref ou]) (rest := []) ⟨hx, hb, hml, hown, hts⟩ (w_getDue l hl9 dC dI H.size ed x a4 (.ref a1) (.ref a2) (.ref a3) (.ref tt) (.int 0) (.ref rr) (.ref cq) (.int 0) (.ref ed) (xs (Int32.toNatClampNeg 1)) (xs (Int32.toNatClampNeg 2)) ou) (vx_cwSW 4 hts (pw_S q890 q891 q42 q892) rfl rfl rfl (by decide +kernel) ⟨(Nat.le_of_ble_eq_true rfl), (Nat.le_of_ble_eq_true rfl)⟩) ⟨fun a U g mk q => by obtain ⟨q0, q1, qP, qK, qD, qZ⟩ := q; exact ⟨q0, q1, qP, va_K.moved (u := U) (U := U.calling g mk a) (Vm.Alike.refl U.vm) qK, qD, qZ.same rfl⟩, fun U hU hW => ⟨rfl, by rw [hU], by rw [hU]; exact hPc, va_K.moved hW.alike hKc, hDc.weaken (fun _ _ _ _ => trivial), hZ.call hS hFc hU hW⟩⟩ rfl rfl hl.1 rfl (lv_room (Nat.le_of_ble_eq_true rfl)) dL_law_1351 ⟨(Nat.le_of_ble_eq_true rfl), (Nat.le_of_ble_eq_true rfl)⟩) hS (fun q _ h => hFc q h) hFc (fun r_570 u t H1 locs ht hvm hw hB hz1 hk1 hS => ?_)
  obtain ⟨hP1, hK1, hD1⟩ := hB
  rw [ht] at hP1
  have hK1 := va_K.moved hvm.symm hK1
  obtain ⟨hP, hD⟩ := va_join (wr := [(a1, .inr (4, [.int 0, .ref ed, .int 0])), (a2, .inr (4, [.int 0, .ref ed, .int 0])), (a3, .inr (4, [.int 0, .ref ed, .int 0])), (tt, .inl (cT, 24, .inl (fun _ => 0))), (rr, .inr (6, [.ref t1, .ref t2, .int 0, .int 0, .long 0, .long 0])), (mo, .inr (15, [.ref b1, .ref b2, .ref b3, .ref b4, .ref b5, .int 0])), (b1, .inr (4, [.int 0, .ref ed, .int 0])), (b2, .inr (4, [.int 0, .ref ed, .int 0])), (b3, .inr (4, [.int 0, .ref ed, .int 0])), (b4, .inr (4, [.int 0, .ref ed, .int 0])), (b5, .inr (4, [.int 0, .ref ed, .int 0])), (ou, .inl (cO, 1, .inr (.inl (fun _ => 0)))), (od, .inl (cD, 1, .inr (.inr (.inr (.inl (fun _ => 0))))))]) (w1 := [(x, .inr (11, [.ref a1, .ref a2, .ref a3, .ref a4, .ref tt, .int 0, .ref rr, .ref cq])), (a4, .inr (4, [.int 0, .ref ed, .int 0]))]) hP hD [0, 4] [1, 2, 3, 5, 6, 7, 8, 9, 10, 11, 12, 13, 14] rfl rfl (by decide) (by decide) hk1 hFc hP1 hD1
  have hK := (hK.sub (tys' := [(cT, .int), (cO, .long), (cD, .double)]) [0, 1, 2] rfl).app hK1
  generalize H1 = H at hP hS ⊢
  have hP : va_P (dC, dI) vwCl [(a1, .inr (4, [.int 0, .ref ed, .int 0])), (a2, .inr (4, [.int 0, .ref ed, .int 0])), (a3, .inr (4, [.int 0, .ref ed, .int 0])), (tt, .inl (cT, 24, .inl (fun _ => 0))), (rr, .inr (6, [.ref t1, .ref t2, .int 0, .int 0, .long 0, .long 0])), (mo, .inr (15, [.ref b1, .ref b2, .ref b3, .ref b4, .ref b5, .int 0])), (b1, .inr (4, [.int 0, .ref ed, .int 0])), (b2, .inr (4, [.int 0, .ref ed, .int 0])), (b3, .inr (4, [.int 0, .ref ed, .int 0])), (b4, .inr (4, [.int 0, .ref ed, .int 0])), (b5, .inr (4, [.int 0, .ref ed, .int 0])), (ou, .inl (cO, 1, .inr (.inl (fun _ => 0)))), (od, .inl (cD, 1, .inr (.inr (.inr (.inl (fun _ => 0)))))), (x, .inr (11, [.ref a1, .ref a2, .ref a3, .ref a4, .ref tt, .int 0, .ref rr, .ref cq])), (a4, .inr (4, [.int 0, .ref ed, .int 0]))] H := hP
  have hD : va_D (fun q : Nat => s.heap.size ≤ q) [(a1, .inr (4, [.int 0, .ref ed, .int 0])), (a2, .inr (4, [.int 0, .ref ed, .int 0])), (a3, .inr (4, [.int 0, .ref ed, .int 0])), (tt, .inl (cT, 24, .inl (fun _ => 0))), (rr, .inr (6, [.ref t1, .ref t2, .int 0, .int 0, .long 0, .long 0])), (mo, .inr (15, [.ref b1, .ref b2, .ref b3, .ref b4, .ref b5, .int 0])), (b1, .inr (4, [.int 0, .ref ed, .int 0])), (b2, .inr (4, [.int 0, .ref ed, .int 0])), (b3, .inr (4, [.int 0, .ref ed, .int 0])), (b4, .inr (4, [.int 0, .ref ed, .int 0])), (b5, .inr (4, [.int 0, .ref ed, .int 0])), (ou, .inl (cO, 1, .inr (.inl (fun _ => 0)))), (od, .inl (cD, 1, .inr (.inr (.inr (.inl (fun _ => 0)))))), (x, .inr (11, [.ref a1, .ref a2, .ref a3, .ref a4, .ref tt, .int 0, .ref rr, .ref cq])), (a4, .inr (4, [.int 0, .ref ed, .int 0]))] := hD
  have hK : va_K (dC, dI) vwCl [(cT, .int), (cO, .long), (cD, .double)] s := hK
  refine W.widen (k := 28) (n := 304) (Nat.le_of_ble_eq_true rfl) (Nat.le_of_ble_eq_true rfl) ?_
  have hw : r_570 = 1 := hw
  subst hw
  refine lv_istore (lv' := [(6, .int 1), (5, .int 0), (4, .ref od), (3, .ref ou), (2, .ref mo), (1, .ref x), (0, .ref b)]) hx hb dL_law_1354 hl (by decide) rfl (fun ls hl => ?_)
  refine lv_aload_n hx hb dL_law_1356 rfl (lv_at hl 4 rfl) ?_
  refine lv_aload_n hx hb dL_law_1357 rfl (lv_at hl 6 rfl) ?_
  refine lv_iload hx hb dL_law_1358 (lv_at hl 1 rfl) ?_
  refine lv_iconst (v := 1) hx hb dL_law_1360 (by decide) ?_
  refine lv_iadd hx hb dL_law_1361 ?_
  refine lv_numI (v := 1) (by decide) ?_
  refine va_sld hx hb hX hbl hbA hS (by unfold vp_in; decide) dL_law_1362 ?_
  refine lv_aload_n hx hb dL_law_1363 rfl (lv_at hl 6 rfl) ?_
  refine lv_iload hx hb dL_law_1364 (lv_at hl 1 rfl) ?_
  refine lv_iconst (v := 2) hx hb dL_law_1366 (by decide) ?_
  refine lv_iadd hx hb dL_law_1367 ?_
  refine lv_numI (v := 2) (by decide) ?_
  refine va_sld hx hb hX hbl hbA hS (by unfold vp_in; decide) dL_law_1368 ?_
  have hPc := hP.sub (ws' := [(mo, .inr (15, [.ref b1, .ref b2, .ref b3, .ref b4, .ref b5, .int 0])), (b4, .inr (4, [.int 0, .ref ed, .int 0]))]) [5, 9] rfl
  have hDc := hD.sub (ws' := [(mo, .inr (15, [.ref b1, .ref b2, .ref b3, .ref b4, .ref b5, .int 0])), (b4, .inr (4, [.int 0, .ref ed, .int 0]))]) [5, 9] (by decide) rfl
  have hKc := hK.sub (tys' := []) [] rfl
  have hFc := va_free (wc := [(mo, .inr (15, [.ref b1, .ref b2, .ref b3, .ref b4, .ref b5, .int 0])), (b4, .inr (4, [.int 0, .ref ed, .int 0]))]) hD hS hA [5, 9] rfl
  refine va_calli (va_runV (As := [.int (xs (Int32.toNatClampNeg 1)), .int (xs (Int32.toNatClampNeg 2))]) (rest := []) ⟨hx, hb, hml, hown, hts⟩ (y_getDue l dC dI H.size mo b4 (.ref b1) (.ref b2) (.ref b3) (.ref b5) (.int 0) (.ref ed) 0 (xs (Int32.toNatClampNeg 1)) (xs (Int32.toNatClampNeg 2))) (cwV 2 hts (pw_V q1600 q1601 q1602 q49 q1603) rfl rfl rfl (by decide +kernel) ⟨(Nat.le_of_ble_eq_true rfl), (Nat.le_of_ble_eq_true rfl)⟩) ⟨fun a U g mk q => by obtain ⟨q0, q1, qP, qK, qD⟩ := q; exact ⟨q0, q1, qP, va_K.moved (u := U) (U := U.calling g mk a) (Vm.Alike.refl U.vm) qK, qD⟩, va_recv hKc hPc (ci := 15) (q0 := 0) rfl rfl, fun U hU hW => ⟨rfl, by rw [hU], by rw [hU]; exact hPc, va_K.moved hW.alike hKc, hDc.weaken (fun _ _ _ _ => trivial)⟩⟩ rfl rfl hl.1 rfl (lv_room (Nat.le_of_ble_eq_true rfl)) dL_law_1369 ⟨(Nat.le_of_ble_eq_true rfl), (Nat.le_of_ble_eq_true rfl)⟩) hS (fun q _ h => hFc q h) hFc (fun r_571 u t H1 locs ht hvm hw hB hz1 hk1 hS => ?_)
  obtain ⟨hP1, hK1, hD1⟩ := hB
  rw [ht] at hP1
  have hK1 := va_K.moved hvm.symm hK1
  obtain ⟨hP, hD⟩ := va_join (wr := [(a1, .inr (4, [.int 0, .ref ed, .int 0])), (a2, .inr (4, [.int 0, .ref ed, .int 0])), (a3, .inr (4, [.int 0, .ref ed, .int 0])), (tt, .inl (cT, 24, .inl (fun _ => 0))), (rr, .inr (6, [.ref t1, .ref t2, .int 0, .int 0, .long 0, .long 0])), (b1, .inr (4, [.int 0, .ref ed, .int 0])), (b2, .inr (4, [.int 0, .ref ed, .int 0])), (b3, .inr (4, [.int 0, .ref ed, .int 0])), (b5, .inr (4, [.int 0, .ref ed, .int 0])), (ou, .inl (cO, 1, .inr (.inl (fun _ => 0)))), (od, .inl (cD, 1, .inr (.inr (.inr (.inl (fun _ => 0)))))), (x, .inr (11, [.ref a1, .ref a2, .ref a3, .ref a4, .ref tt, .int 0, .ref rr, .ref cq])), (a4, .inr (4, [.int 0, .ref ed, .int 0]))]) (w1 := [(mo, .inr (15, [.ref b1, .ref b2, .ref b3, .ref b4, .ref b5, .int 1])), (b4, .inr (4, [.int 0, .ref ed, .int 0]))]) hP hD [5, 9] [0, 1, 2, 3, 4, 6, 7, 8, 10, 11, 12, 13, 14] rfl rfl (by decide) (by decide) hk1 hFc hP1 hD1
  have hK := (hK.sub (tys' := [(cT, .int), (cO, .long), (cD, .double)]) [0, 1, 2] rfl).app hK1
  generalize H1 = H at hP hS ⊢
  have hP : va_P (dC, dI) vwCl [(a1, .inr (4, [.int 0, .ref ed, .int 0])), (a2, .inr (4, [.int 0, .ref ed, .int 0])), (a3, .inr (4, [.int 0, .ref ed, .int 0])), (tt, .inl (cT, 24, .inl (fun _ => 0))), (rr, .inr (6, [.ref t1, .ref t2, .int 0, .int 0, .long 0, .long 0])), (b1, .inr (4, [.int 0, .ref ed, .int 0])), (b2, .inr (4, [.int 0, .ref ed, .int 0])), (b3, .inr (4, [.int 0, .ref ed, .int 0])), (b5, .inr (4, [.int 0, .ref ed, .int 0])), (ou, .inl (cO, 1, .inr (.inl (fun _ => 0)))), (od, .inl (cD, 1, .inr (.inr (.inr (.inl (fun _ => 0)))))), (x, .inr (11, [.ref a1, .ref a2, .ref a3, .ref a4, .ref tt, .int 0, .ref rr, .ref cq])), (a4, .inr (4, [.int 0, .ref ed, .int 0])), (mo, .inr (15, [.ref b1, .ref b2, .ref b3, .ref b4, .ref b5, .int 1])), (b4, .inr (4, [.int 0, .ref ed, .int 0]))] H := hP
  have hD : va_D (fun q : Nat => s.heap.size ≤ q) [(a1, .inr (4, [.int 0, .ref ed, .int 0])), (a2, .inr (4, [.int 0, .ref ed, .int 0])), (a3, .inr (4, [.int 0, .ref ed, .int 0])), (tt, .inl (cT, 24, .inl (fun _ => 0))), (rr, .inr (6, [.ref t1, .ref t2, .int 0, .int 0, .long 0, .long 0])), (b1, .inr (4, [.int 0, .ref ed, .int 0])), (b2, .inr (4, [.int 0, .ref ed, .int 0])), (b3, .inr (4, [.int 0, .ref ed, .int 0])), (b5, .inr (4, [.int 0, .ref ed, .int 0])), (ou, .inl (cO, 1, .inr (.inl (fun _ => 0)))), (od, .inl (cD, 1, .inr (.inr (.inr (.inl (fun _ => 0)))))), (x, .inr (11, [.ref a1, .ref a2, .ref a3, .ref a4, .ref tt, .int 0, .ref rr, .ref cq])), (a4, .inr (4, [.int 0, .ref ed, .int 0])), (mo, .inr (15, [.ref b1, .ref b2, .ref b3, .ref b4, .ref b5, .int 1])), (b4, .inr (4, [.int 0, .ref ed, .int 0]))] := hD
  have hK : va_K (dC, dI) vwCl [(cT, .int), (cO, .long), (cD, .double)] s := hK
  refine W.widen (k := 28) (n := 304) (Nat.le_of_ble_eq_true rfl) (Nat.le_of_ble_eq_true rfl) ?_
  have hw : r_571 = 0 := hw
  subst hw
  refine lv_istore (lv' := [(7, .int 0), (6, .int 1), (5, .int 0), (4, .ref od), (3, .ref ou), (2, .ref mo), (1, .ref x), (0, .ref b)]) hx hb dL_law_1372 hl (by decide) rfl (fun ls hl => ?_)
  refine lv_aload_n hx hb dL_law_1374 rfl (lv_at hl 5 rfl) ?_
  have hPc := hP.sub (ws' := [(mo, .inr (15, [.ref b1, .ref b2, .ref b3, .ref b4, .ref b5, .int 1]))]) [13] rfl
  have hDc := hD.sub (ws' := [(mo, .inr (15, [.ref b1, .ref b2, .ref b3, .ref b4, .ref b5, .int 1]))]) [13] (by decide) rfl
  have hKc := hK.sub (tys' := []) [] rfl
  have hFc := va_free (wc := [(mo, .inr (15, [.ref b1, .ref b2, .ref b3, .ref b4, .ref b5, .int 1]))]) hD hS hA [13] rfl
  refine va_calli (va_runV (As := []) (rest := []) ⟨hx, hb, hml, hown, hts⟩ (n_thrown l dC dI H.size mo (.ref b1) (.ref b2) (.ref b3) (.ref b4) (.ref b5) 1) (cwV 0 hts (pw_V q1244 q1245 q1246 q49 q1247) rfl rfl rfl (by decide +kernel) ⟨(Nat.le_of_ble_eq_true rfl), (Nat.le_of_ble_eq_true rfl)⟩) ⟨fun a U g mk q => by obtain ⟨q0, q1, qP, qK, qD⟩ := q; exact ⟨q0, q1, qP, va_K.moved (u := U) (U := U.calling g mk a) (Vm.Alike.refl U.vm) qK, qD⟩, va_recv hKc hPc (ci := 15) (q0 := 0) rfl rfl, fun U hU hW => ⟨rfl, by rw [hU], by rw [hU]; exact hPc, va_K.moved hW.alike hKc, hDc.weaken (fun _ _ _ _ => trivial)⟩⟩ rfl rfl hl.1 rfl (lv_room (Nat.le_of_ble_eq_true rfl)) dL_law_1375 ⟨(Nat.le_of_ble_eq_true rfl), (Nat.le_of_ble_eq_true rfl)⟩) hS (fun q _ h => hFc q h) hFc (fun r_572 u t H1 locs ht hvm hw hB hz1 hk1 hS => ?_)
  obtain ⟨hP1, hK1, hD1⟩ := hB
  rw [ht] at hP1
  have hK1 := va_K.moved hvm.symm hK1
  obtain ⟨hP, hD⟩ := va_join (wr := [(a1, .inr (4, [.int 0, .ref ed, .int 0])), (a2, .inr (4, [.int 0, .ref ed, .int 0])), (a3, .inr (4, [.int 0, .ref ed, .int 0])), (tt, .inl (cT, 24, .inl (fun _ => 0))), (rr, .inr (6, [.ref t1, .ref t2, .int 0, .int 0, .long 0, .long 0])), (b1, .inr (4, [.int 0, .ref ed, .int 0])), (b2, .inr (4, [.int 0, .ref ed, .int 0])), (b3, .inr (4, [.int 0, .ref ed, .int 0])), (b5, .inr (4, [.int 0, .ref ed, .int 0])), (ou, .inl (cO, 1, .inr (.inl (fun _ => 0)))), (od, .inl (cD, 1, .inr (.inr (.inr (.inl (fun _ => 0)))))), (x, .inr (11, [.ref a1, .ref a2, .ref a3, .ref a4, .ref tt, .int 0, .ref rr, .ref cq])), (a4, .inr (4, [.int 0, .ref ed, .int 0])), (b4, .inr (4, [.int 0, .ref ed, .int 0]))]) (w1 := [(mo, .inr (15, [.ref b1, .ref b2, .ref b3, .ref b4, .ref b5, .int 1]))]) hP hD [13] [0, 1, 2, 3, 4, 5, 6, 7, 8, 9, 10, 11, 12, 14] rfl rfl (by decide) (by decide) hk1 hFc hP1 hD1
  have hK := (hK.sub (tys' := [(cT, .int), (cO, .long), (cD, .double)]) [0, 1, 2] rfl).app hK1
  generalize H1 = H at hP hS ⊢
  have hP : va_P (dC, dI) vwCl [(a1, .inr (4, [.int 0, .ref ed, .int 0])), (a2, .inr (4, [.int 0, .ref ed, .int 0])), (a3, .inr (4, [.int 0, .ref ed, .int 0])), (tt, .inl (cT, 24, .inl (fun _ => 0))), (rr, .inr (6, [.ref t1, .ref t2, .int 0, .int 0, .long 0, .long 0])), (b1, .inr (4, [.int 0, .ref ed, .int 0])), (b2, .inr (4, [.int 0, .ref ed, .int 0])), (b3, .inr (4, [.int 0, .ref ed, .int 0])), (b5, .inr (4, [.int 0, .ref ed, .int 0])), (ou, .inl (cO, 1, .inr (.inl (fun _ => 0)))), (od, .inl (cD, 1, .inr (.inr (.inr (.inl (fun _ => 0)))))), (x, .inr (11, [.ref a1, .ref a2, .ref a3, .ref a4, .ref tt, .int 0, .ref rr, .ref cq])), (a4, .inr (4, [.int 0, .ref ed, .int 0])), (b4, .inr (4, [.int 0, .ref ed, .int 0])), (mo, .inr (15, [.ref b1, .ref b2, .ref b3, .ref b4, .ref b5, .int 1]))] H := hP
  have hD : va_D (fun q : Nat => s.heap.size ≤ q) [(a1, .inr (4, [.int 0, .ref ed, .int 0])), (a2, .inr (4, [.int 0, .ref ed, .int 0])), (a3, .inr (4, [.int 0, .ref ed, .int 0])), (tt, .inl (cT, 24, .inl (fun _ => 0))), (rr, .inr (6, [.ref t1, .ref t2, .int 0, .int 0, .long 0, .long 0])), (b1, .inr (4, [.int 0, .ref ed, .int 0])), (b2, .inr (4, [.int 0, .ref ed, .int 0])), (b3, .inr (4, [.int 0, .ref ed, .int 0])), (b5, .inr (4, [.int 0, .ref ed, .int 0])), (ou, .inl (cO, 1, .inr (.inl (fun _ => 0)))), (od, .inl (cD, 1, .inr (.inr (.inr (.inl (fun _ => 0)))))), (x, .inr (11, [.ref a1, .ref a2, .ref a3, .ref a4, .ref tt, .int 0, .ref rr, .ref cq])), (a4, .inr (4, [.int 0, .ref ed, .int 0])), (b4, .inr (4, [.int 0, .ref ed, .int 0])), (mo, .inr (15, [.ref b1, .ref b2, .ref b3, .ref b4, .ref b5, .int 1]))] := hD
  have hK : va_K (dC, dI) vwCl [(cT, .int), (cO, .long), (cD, .double)] s := hK
  refine W.widen (k := 28) (n := 304) (Nat.le_of_ble_eq_true rfl) (Nat.le_of_ble_eq_true rfl) ?_
  have hw : r_572 = 1 := hw
  subst hw
  refine lv_iload hx hb dL_law_1378 (lv_at hl 1 rfl) ?_
  refine lv_icmp_eq (tgt := 1385) hx hb dL_law_1380 (by decide) (fun c_573 => ?_) (fun c_573 => absurd (by decide) c_573)
  refine lv_iload hx hb dL_law_1385 (lv_at hl 1 rfl) ?_
  refine lv_if_ne (tgt := 1402) hx hb dL_law_1387 (by decide) (fun c_574 => ?_) (fun c_574 => absurd c_574 (by decide))
  refine lv_goto (tgt := 3072) hx hb dL_law_1402 (by decide) ?_
  refine W.widen (k := 100) (n := 1000) (Nat.le_of_ble_eq_true rfl) (Nat.le_of_ble_eq_true rfl) ?_
  exact law_tail l C0 hS (lv_sub hl [2, 7] rfl)
set_option maxHeartbeats 4000000 in
set_option maxRecDepth 100000 in
theorem law_case_16 {p : Program} {e : Env} {s : State} {m : MethodId} {below : List Frame} {meth : Method} {c : Code} (l : Launch) (hl9 : l.stackTraces = false) (dC : Nat → ClassId) (dI : Nat → Nat → Nat) (ed : Nat) {b : Nat} {xs : Nat → Int32} (C0 : lw_At p s m meth c b 5 xs) (hZ : pz ed (fun q : Nat => s.heap.size ≤ q) s s.heap) (x a1 a2 a3 a4 tt rr cq t1 t2 mo b1 b2 b3 b4 b5 ou od : Nat) (cT cO cD : ClassId) {H : Heap} {locs : List Loc} (hK : va_K (dC, dI) vwCl [(cT, .int), (cO, .long), (cD, .double)] s) (hP : va_P (dC, dI) vwCl [(x, .inr (11, [.ref a1, .ref a2, .ref a3, .ref a4, .ref tt, .int 0, .ref rr, .ref cq])), (a1, .inr (4, [.int 0, .ref ed, .int 0])), (a2, .inr (4, [.int 0, .ref ed, .int 0])), (a3, .inr (4, [.int 0, .ref ed, .int 0])), (a4, .inr (4, [.int 0, .ref ed, .int 0])), (tt, .inl (cT, 24, .inl (fun _ => 0))), (rr, .inr (6, [.ref t1, .ref t2, .int 0, .int 0, .long 0, .long 0])), (mo, .inr (15, [.ref b1, .ref b2, .ref b3, .ref b4, .ref b5, .int 0])), (b1, .inr (4, [.int 0, .ref ed, .int 0])), (b2, .inr (4, [.int 0, .ref ed, .int 0])), (b3, .inr (4, [.int 0, .ref ed, .int 0])), (b4, .inr (4, [.int 0, .ref ed, .int 0])), (b5, .inr (4, [.int 0, .ref ed, .int 0])), (ou, .inl (cO, 1, .inr (.inl (fun _ => 0)))), (od, .inl (cD, 1, .inr (.inr (.inr (.inl (fun _ => 0))))))] H) (hD : va_D (fun q : Nat => s.heap.size ≤ q) [(x, .inr (11, [.ref a1, .ref a2, .ref a3, .ref a4, .ref tt, .int 0, .ref rr, .ref cq])), (a1, .inr (4, [.int 0, .ref ed, .int 0])), (a2, .inr (4, [.int 0, .ref ed, .int 0])), (a3, .inr (4, [.int 0, .ref ed, .int 0])), (a4, .inr (4, [.int 0, .ref ed, .int 0])), (tt, .inl (cT, 24, .inl (fun _ => 0))), (rr, .inr (6, [.ref t1, .ref t2, .int 0, .int 0, .long 0, .long 0])), (mo, .inr (15, [.ref b1, .ref b2, .ref b3, .ref b4, .ref b5, .int 0])), (b1, .inr (4, [.int 0, .ref ed, .int 0])), (b2, .inr (4, [.int 0, .ref ed, .int 0])), (b3, .inr (4, [.int 0, .ref ed, .int 0])), (b4, .inr (4, [.int 0, .ref ed, .int 0])), (b5, .inr (4, [.int 0, .ref ed, .int 0])), (ou, .inl (cO, 1, .inr (.inl (fun _ => 0)))), (od, .inl (cD, 1, .inr (.inr (.inr (.inl (fun _ => 0))))))]) (hS : va_S (fun q : Nat => s.heap.size ≤ q) s.heap H locs) {ls : Array Slot} (hl : lv_has ls 9 [(5, .int 0), (4, .ref od), (3, .ref ou), (2, .ref mo), (1, .ref x), (0, .ref b)]) : W p l e room_1 s m #[Value.ref b] below meth c H locs 27 298 (lw_Z below #[Value.ref b] s) (F0 m 1405 ls []) := by
  obtain ⟨hx, hb, hr, hml, hown, hts0, hX, hbl, hlocks, hgv⟩ := id C0
  have hts : ∀ w ∈ pw_all, w.before #[Value.ref b] s = true := fun w h => hts0 w (pw_tbl h)
  have hA : ∀ q : Nat, s.heap.size ≤ q → (fun q : Nat => s.heap.size ≤ q) q := fun _ h => h
  have hbA : ¬ (fun q : Nat => s.heap.size ≤ q) b := Nat.not_le.mpr hbl
  refine lv_aload_n hx hb dL_law_1405 rfl (lv_at hl 4 rfl) ?_
  refine lv_aload_n hx hb dL_law_1406 rfl (lv_at hl 5 rfl) ?_
  refine lv_iload hx hb dL_law_1407 (lv_at hl 0 rfl) ?_
  refine lv_iconst (v := 1) hx hb dL_law_1409 (by decide) ?_
  refine lv_iadd hx hb dL_law_1410 ?_
  refine lv_numI (v := 1) (by decide) ?_
  refine va_sld hx hb hX hbl hbA hS (by unfold vp_in; decide) dL_law_1411 ?_
  refine lv_aload_n hx hb dL_law_1412 rfl (lv_at hl 5 rfl) ?_
  refine lv_iload hx hb dL_law_1413 (lv_at hl 0 rfl) ?_
  refine lv_iconst (v := 2) hx hb dL_law_1415 (by decide) ?_
  refine lv_iadd hx hb dL_law_1416 ?_
  refine lv_numI (v := 2) (by decide) ?_
  refine va_sld hx hb hX hbl hbA hS (by unfold vp_in; decide) dL_law_1417 ?_
  refine lv_aload_n hx hb dL_law_1418 rfl (lv_at hl 2 rfl) ?_
  have hPc := hP.sub (ws' := [(x, .inr (11, [.ref a1, .ref a2, .ref a3, .ref a4, .ref tt, .int 0, .ref rr, .ref cq])), (a4, .inr (4, [.int 0, .ref ed, .int 0]))]) [0, 4] rfl
  have hDc := hD.sub (ws' := [(x, .inr (11, [.ref a1, .ref a2, .ref a3, .ref a4, .ref tt, .int 0, .ref rr, .ref cq])), (a4, .inr (4, [.int 0, .ref ed, .int 0]))]) [0, 4] (by decide) rfl
  have hKc := hK.sub (tys' := []) [] rfl
  have hFc := va_free (wc := [(x, .inr (11, [.ref a1, .ref a2, .ref a3, .ref a4, .ref tt, .int 0, .ref rr, .ref cq])), (a4, .inr (4, [.int 0, .ref ed, .int 0]))]) hD hS hA [0, 4] rfl
  refine va_calli (vx_runSW (As := [.ref x, .int (xs (Int32.toNatClampNeg 1)), .int (xs (Int32.toNatClampNeg 2)), .ref ou]) (rest := []) ⟨hx, hb, hml, hown, hts⟩ (w_isInBand l hl9 dC dI H.size ed x a4 (.ref a1) (.ref a2) (.ref a3) (.ref tt) (.int 0) (.ref rr) (.ref cq) (.int 0) (.ref ed) (xs (Int32.toNatClampNeg 1)) (xs (Int32.toNatClampNeg 2)) ou) (vx_cwSW 4 hts (pw_S q901 q902 q42 q903) rfl rfl rfl (by decide +kernel) ⟨(Nat.le_of_ble_eq_true rfl), (Nat.le_of_ble_eq_true rfl)⟩) ⟨fun a U g mk q => by obtain ⟨q0, q1, qP, qK, qD, qZ⟩ := q; exact ⟨q0, q1, qP, va_K.moved (u := U) (U := U.calling g mk a) (Vm.Alike.refl U.vm) qK, qD, qZ.same rfl⟩, fun U hU hW => ⟨rfl, by rw [hU], by rw [hU]; exact hPc, va_K.moved hW.alike hKc, hDc.weaken (fun _ _ _ _ => trivial), hZ.call hS hFc hU hW⟩⟩ rfl rfl hl.1 rfl (lv_room (Nat.le_of_ble_eq_true rfl)) dL_law_1419 ⟨(Nat.le_of_ble_eq_true rfl), (Nat.le_of_ble_eq_true rfl)⟩) hS (fun q _ h => hFc q h) hFc (fun r_575 u t H1 locs ht hvm hw hB hz1 hk1 hS => ?_)
  obtain ⟨hP1, hK1, hD1⟩ := hB
  rw [ht] at hP1
  have hK1 := va_K.moved hvm.symm hK1
  obtain ⟨hP, hD⟩ := va_join (wr := [(a1, .inr (4, [.int 0, .ref ed, .int 0])), (a2, .inr (4, [.int 0, .ref ed, .int 0])), (a3, .inr (4, [.int 0, .ref ed, .int 0])), (tt, .inl (cT, 24, .inl (fun _ => 0))), (rr, .inr (6, [.ref t1, .ref t2, .int 0, .int 0, .long 0, .long 0])), (mo, .inr (15, [.ref b1, .ref b2, .ref b3, .ref b4, .ref b5, .int 0])), (b1, .inr (4, [.int 0, .ref ed, .int 0])), (b2, .inr (4, [.int 0, .ref ed, .int 0])), (b3, .inr (4, [.int 0, .ref ed, .int 0])), (b4, .inr (4, [.int 0, .ref ed, .int 0])), (b5, .inr (4, [.int 0, .ref ed, .int 0])), (ou, .inl (cO, 1, .inr (.inl (fun _ => 0)))), (od, .inl (cD, 1, .inr (.inr (.inr (.inl (fun _ => 0))))))]) (w1 := [(x, .inr (11, [.ref a1, .ref a2, .ref a3, .ref a4, .ref tt, .int 0, .ref rr, .ref cq])), (a4, .inr (4, [.int 0, .ref ed, .int 0]))]) hP hD [0, 4] [1, 2, 3, 5, 6, 7, 8, 9, 10, 11, 12, 13, 14] rfl rfl (by decide) (by decide) hk1 hFc hP1 hD1
  have hK := (hK.sub (tys' := [(cT, .int), (cO, .long), (cD, .double)]) [0, 1, 2] rfl).app hK1
  generalize H1 = H at hP hS ⊢
  have hP : va_P (dC, dI) vwCl [(a1, .inr (4, [.int 0, .ref ed, .int 0])), (a2, .inr (4, [.int 0, .ref ed, .int 0])), (a3, .inr (4, [.int 0, .ref ed, .int 0])), (tt, .inl (cT, 24, .inl (fun _ => 0))), (rr, .inr (6, [.ref t1, .ref t2, .int 0, .int 0, .long 0, .long 0])), (mo, .inr (15, [.ref b1, .ref b2, .ref b3, .ref b4, .ref b5, .int 0])), (b1, .inr (4, [.int 0, .ref ed, .int 0])), (b2, .inr (4, [.int 0, .ref ed, .int 0])), (b3, .inr (4, [.int 0, .ref ed, .int 0])), (b4, .inr (4, [.int 0, .ref ed, .int 0])), (b5, .inr (4, [.int 0, .ref ed, .int 0])), (ou, .inl (cO, 1, .inr (.inl (fun _ => 0)))), (od, .inl (cD, 1, .inr (.inr (.inr (.inl (fun _ => 0)))))), (x, .inr (11, [.ref a1, .ref a2, .ref a3, .ref a4, .ref tt, .int 0, .ref rr, .ref cq])), (a4, .inr (4, [.int 0, .ref ed, .int 0]))] H := hP
  have hD : va_D (fun q : Nat => s.heap.size ≤ q) [(a1, .inr (4, [.int 0, .ref ed, .int 0])), (a2, .inr (4, [.int 0, .ref ed, .int 0])), (a3, .inr (4, [.int 0, .ref ed, .int 0])), (tt, .inl (cT, 24, .inl (fun _ => 0))), (rr, .inr (6, [.ref t1, .ref t2, .int 0, .int 0, .long 0, .long 0])), (mo, .inr (15, [.ref b1, .ref b2, .ref b3, .ref b4, .ref b5, .int 0])), (b1, .inr (4, [.int 0, .ref ed, .int 0])), (b2, .inr (4, [.int 0, .ref ed, .int 0])), (b3, .inr (4, [.int 0, .ref ed, .int 0])), (b4, .inr (4, [.int 0, .ref ed, .int 0])), (b5, .inr (4, [.int 0, .ref ed, .int 0])), (ou, .inl (cO, 1, .inr (.inl (fun _ => 0)))), (od, .inl (cD, 1, .inr (.inr (.inr (.inl (fun _ => 0)))))), (x, .inr (11, [.ref a1, .ref a2, .ref a3, .ref a4, .ref tt, .int 0, .ref rr, .ref cq])), (a4, .inr (4, [.int 0, .ref ed, .int 0]))] := hD
  have hK : va_K (dC, dI) vwCl [(cT, .int), (cO, .long), (cD, .double)] s := hK
  refine W.widen (k := 28) (n := 304) (Nat.le_of_ble_eq_true rfl) (Nat.le_of_ble_eq_true rfl) ?_
  have hw : r_575 = 1 := hw
  subst hw
  refine lv_istore (lv' := [(6, .int 1), (5, .int 0), (4, .ref od), (3, .ref ou), (2, .ref mo), (1, .ref x), (0, .ref b)]) hx hb dL_law_1422 hl (by decide) rfl (fun ls hl => ?_)
  refine lv_aload_n hx hb dL_law_1424 rfl (lv_at hl 4 rfl) ?_
  refine lv_aload_n hx hb dL_law_1425 rfl (lv_at hl 6 rfl) ?_
  refine lv_iload hx hb dL_law_1426 (lv_at hl 1 rfl) ?_
  refine lv_iconst (v := 1) hx hb dL_law_1428 (by decide) ?_
  refine lv_iadd hx hb dL_law_1429 ?_
  refine lv_numI (v := 1) (by decide) ?_
  refine va_sld hx hb hX hbl hbA hS (by unfold vp_in; decide) dL_law_1430 ?_
  refine lv_aload_n hx hb dL_law_1431 rfl (lv_at hl 6 rfl) ?_
  refine lv_iload hx hb dL_law_1432 (lv_at hl 1 rfl) ?_
  refine lv_iconst (v := 2) hx hb dL_law_1434 (by decide) ?_
  refine lv_iadd hx hb dL_law_1435 ?_
  refine lv_numI (v := 2) (by decide) ?_
  refine va_sld hx hb hX hbl hbA hS (by unfold vp_in; decide) dL_law_1436 ?_
  have hPc := hP.sub (ws' := [(mo, .inr (15, [.ref b1, .ref b2, .ref b3, .ref b4, .ref b5, .int 0])), (b4, .inr (4, [.int 0, .ref ed, .int 0]))]) [5, 9] rfl
  have hDc := hD.sub (ws' := [(mo, .inr (15, [.ref b1, .ref b2, .ref b3, .ref b4, .ref b5, .int 0])), (b4, .inr (4, [.int 0, .ref ed, .int 0]))]) [5, 9] (by decide) rfl
  have hKc := hK.sub (tys' := []) [] rfl
  have hFc := va_free (wc := [(mo, .inr (15, [.ref b1, .ref b2, .ref b3, .ref b4, .ref b5, .int 0])), (b4, .inr (4, [.int 0, .ref ed, .int 0]))]) hD hS hA [5, 9] rfl
  refine va_calli (va_runV (As := [.int (xs (Int32.toNatClampNeg 1)), .int (xs (Int32.toNatClampNeg 2))]) (rest := []) ⟨hx, hb, hml, hown, hts⟩ (y_isInBand l dC dI H.size mo b4 (.ref b1) (.ref b2) (.ref b3) (.ref b5) (.int 0) (.ref ed) 0 (xs (Int32.toNatClampNeg 1)) (xs (Int32.toNatClampNeg 2))) (cwV 2 hts (pw_V q1612 q1613 q1614 q49 q1615) rfl rfl rfl (by decide +kernel) ⟨(Nat.le_of_ble_eq_true rfl), (Nat.le_of_ble_eq_true rfl)⟩) ⟨fun a U g mk q => by obtain ⟨q0, q1, qP, qK, qD⟩ := q; exact ⟨q0, q1, qP, va_K.moved (u := U) (U := U.calling g mk a) (Vm.Alike.refl U.vm) qK, qD⟩, va_recv hKc hPc (ci := 15) (q0 := 0) rfl rfl, fun U hU hW => ⟨rfl, by rw [hU], by rw [hU]; exact hPc, va_K.moved hW.alike hKc, hDc.weaken (fun _ _ _ _ => trivial)⟩⟩ rfl rfl hl.1 rfl (lv_room (Nat.le_of_ble_eq_true rfl)) dL_law_1437 ⟨(Nat.le_of_ble_eq_true rfl), (Nat.le_of_ble_eq_true rfl)⟩) hS (fun q _ h => hFc q h) hFc (fun r_576 u t H1 locs ht hvm hw hB hz1 hk1 hS => ?_)
  obtain ⟨hP1, hK1, hD1⟩ := hB
  rw [ht] at hP1
  have hK1 := va_K.moved hvm.symm hK1
  obtain ⟨hP, hD⟩ := va_join (wr := [(a1, .inr (4, [.int 0, .ref ed, .int 0])), (a2, .inr (4, [.int 0, .ref ed, .int 0])), (a3, .inr (4, [.int 0, .ref ed, .int 0])), (tt, .inl (cT, 24, .inl (fun _ => 0))), (rr, .inr (6, [.ref t1, .ref t2, .int 0, .int 0, .long 0, .long 0])), (b1, .inr (4, [.int 0, .ref ed, .int 0])), (b2, .inr (4, [.int 0, .ref ed, .int 0])), (b3, .inr (4, [.int 0, .ref ed, .int 0])), (b5, .inr (4, [.int 0, .ref ed, .int 0])), (ou, .inl (cO, 1, .inr (.inl (fun _ => 0)))), (od, .inl (cD, 1, .inr (.inr (.inr (.inl (fun _ => 0)))))), (x, .inr (11, [.ref a1, .ref a2, .ref a3, .ref a4, .ref tt, .int 0, .ref rr, .ref cq])), (a4, .inr (4, [.int 0, .ref ed, .int 0]))]) (w1 := [(mo, .inr (15, [.ref b1, .ref b2, .ref b3, .ref b4, .ref b5, .int 1])), (b4, .inr (4, [.int 0, .ref ed, .int 0]))]) hP hD [5, 9] [0, 1, 2, 3, 4, 6, 7, 8, 10, 11, 12, 13, 14] rfl rfl (by decide) (by decide) hk1 hFc hP1 hD1
  have hK := (hK.sub (tys' := [(cT, .int), (cO, .long), (cD, .double)]) [0, 1, 2] rfl).app hK1
  generalize H1 = H at hP hS ⊢
  have hP : va_P (dC, dI) vwCl [(a1, .inr (4, [.int 0, .ref ed, .int 0])), (a2, .inr (4, [.int 0, .ref ed, .int 0])), (a3, .inr (4, [.int 0, .ref ed, .int 0])), (tt, .inl (cT, 24, .inl (fun _ => 0))), (rr, .inr (6, [.ref t1, .ref t2, .int 0, .int 0, .long 0, .long 0])), (b1, .inr (4, [.int 0, .ref ed, .int 0])), (b2, .inr (4, [.int 0, .ref ed, .int 0])), (b3, .inr (4, [.int 0, .ref ed, .int 0])), (b5, .inr (4, [.int 0, .ref ed, .int 0])), (ou, .inl (cO, 1, .inr (.inl (fun _ => 0)))), (od, .inl (cD, 1, .inr (.inr (.inr (.inl (fun _ => 0)))))), (x, .inr (11, [.ref a1, .ref a2, .ref a3, .ref a4, .ref tt, .int 0, .ref rr, .ref cq])), (a4, .inr (4, [.int 0, .ref ed, .int 0])), (mo, .inr (15, [.ref b1, .ref b2, .ref b3, .ref b4, .ref b5, .int 1])), (b4, .inr (4, [.int 0, .ref ed, .int 0]))] H := hP
  have hD : va_D (fun q : Nat => s.heap.size ≤ q) [(a1, .inr (4, [.int 0, .ref ed, .int 0])), (a2, .inr (4, [.int 0, .ref ed, .int 0])), (a3, .inr (4, [.int 0, .ref ed, .int 0])), (tt, .inl (cT, 24, .inl (fun _ => 0))), (rr, .inr (6, [.ref t1, .ref t2, .int 0, .int 0, .long 0, .long 0])), (b1, .inr (4, [.int 0, .ref ed, .int 0])), (b2, .inr (4, [.int 0, .ref ed, .int 0])), (b3, .inr (4, [.int 0, .ref ed, .int 0])), (b5, .inr (4, [.int 0, .ref ed, .int 0])), (ou, .inl (cO, 1, .inr (.inl (fun _ => 0)))), (od, .inl (cD, 1, .inr (.inr (.inr (.inl (fun _ => 0)))))), (x, .inr (11, [.ref a1, .ref a2, .ref a3, .ref a4, .ref tt, .int 0, .ref rr, .ref cq])), (a4, .inr (4, [.int 0, .ref ed, .int 0])), (mo, .inr (15, [.ref b1, .ref b2, .ref b3, .ref b4, .ref b5, .int 1])), (b4, .inr (4, [.int 0, .ref ed, .int 0]))] := hD
  have hK : va_K (dC, dI) vwCl [(cT, .int), (cO, .long), (cD, .double)] s := hK
  refine W.widen (k := 28) (n := 304) (Nat.le_of_ble_eq_true rfl) (Nat.le_of_ble_eq_true rfl) ?_
  have hw : r_576 = 0 := hw
  subst hw
  refine lv_istore (lv' := [(7, .int 0), (6, .int 1), (5, .int 0), (4, .ref od), (3, .ref ou), (2, .ref mo), (1, .ref x), (0, .ref b)]) hx hb dL_law_1440 hl (by decide) rfl (fun ls hl => ?_)
  refine lv_aload_n hx hb dL_law_1442 rfl (lv_at hl 5 rfl) ?_
  have hPc := hP.sub (ws' := [(mo, .inr (15, [.ref b1, .ref b2, .ref b3, .ref b4, .ref b5, .int 1]))]) [13] rfl
  have hDc := hD.sub (ws' := [(mo, .inr (15, [.ref b1, .ref b2, .ref b3, .ref b4, .ref b5, .int 1]))]) [13] (by decide) rfl
  have hKc := hK.sub (tys' := []) [] rfl
  have hFc := va_free (wc := [(mo, .inr (15, [.ref b1, .ref b2, .ref b3, .ref b4, .ref b5, .int 1]))]) hD hS hA [13] rfl
  refine va_calli (va_runV (As := []) (rest := []) ⟨hx, hb, hml, hown, hts⟩ (n_thrown l dC dI H.size mo (.ref b1) (.ref b2) (.ref b3) (.ref b4) (.ref b5) 1) (cwV 0 hts (pw_V q1244 q1245 q1246 q49 q1247) rfl rfl rfl (by decide +kernel) ⟨(Nat.le_of_ble_eq_true rfl), (Nat.le_of_ble_eq_true rfl)⟩) ⟨fun a U g mk q => by obtain ⟨q0, q1, qP, qK, qD⟩ := q; exact ⟨q0, q1, qP, va_K.moved (u := U) (U := U.calling g mk a) (Vm.Alike.refl U.vm) qK, qD⟩, va_recv hKc hPc (ci := 15) (q0 := 0) rfl rfl, fun U hU hW => ⟨rfl, by rw [hU], by rw [hU]; exact hPc, va_K.moved hW.alike hKc, hDc.weaken (fun _ _ _ _ => trivial)⟩⟩ rfl rfl hl.1 rfl (lv_room (Nat.le_of_ble_eq_true rfl)) dL_law_1443 ⟨(Nat.le_of_ble_eq_true rfl), (Nat.le_of_ble_eq_true rfl)⟩) hS (fun q _ h => hFc q h) hFc (fun r_577 u t H1 locs ht hvm hw hB hz1 hk1 hS => ?_)
  obtain ⟨hP1, hK1, hD1⟩ := hB
  rw [ht] at hP1
  have hK1 := va_K.moved hvm.symm hK1
  obtain ⟨hP, hD⟩ := va_join (wr := [(a1, .inr (4, [.int 0, .ref ed, .int 0])), (a2, .inr (4, [.int 0, .ref ed, .int 0])), (a3, .inr (4, [.int 0, .ref ed, .int 0])), (tt, .inl (cT, 24, .inl (fun _ => 0))), (rr, .inr (6, [.ref t1, .ref t2, .int 0, .int 0, .long 0, .long 0])), (b1, .inr (4, [.int 0, .ref ed, .int 0])), (b2, .inr (4, [.int 0, .ref ed, .int 0])), (b3, .inr (4, [.int 0, .ref ed, .int 0])), (b5, .inr (4, [.int 0, .ref ed, .int 0])), (ou, .inl (cO, 1, .inr (.inl (fun _ => 0)))), (od, .inl (cD, 1, .inr (.inr (.inr (.inl (fun _ => 0)))))), (x, .inr (11, [.ref a1, .ref a2, .ref a3, .ref a4, .ref tt, .int 0, .ref rr, .ref cq])), (a4, .inr (4, [.int 0, .ref ed, .int 0])), (b4, .inr (4, [.int 0, .ref ed, .int 0]))]) (w1 := [(mo, .inr (15, [.ref b1, .ref b2, .ref b3, .ref b4, .ref b5, .int 1]))]) hP hD [13] [0, 1, 2, 3, 4, 5, 6, 7, 8, 9, 10, 11, 12, 14] rfl rfl (by decide) (by decide) hk1 hFc hP1 hD1
  have hK := (hK.sub (tys' := [(cT, .int), (cO, .long), (cD, .double)]) [0, 1, 2] rfl).app hK1
  generalize H1 = H at hP hS ⊢
  have hP : va_P (dC, dI) vwCl [(a1, .inr (4, [.int 0, .ref ed, .int 0])), (a2, .inr (4, [.int 0, .ref ed, .int 0])), (a3, .inr (4, [.int 0, .ref ed, .int 0])), (tt, .inl (cT, 24, .inl (fun _ => 0))), (rr, .inr (6, [.ref t1, .ref t2, .int 0, .int 0, .long 0, .long 0])), (b1, .inr (4, [.int 0, .ref ed, .int 0])), (b2, .inr (4, [.int 0, .ref ed, .int 0])), (b3, .inr (4, [.int 0, .ref ed, .int 0])), (b5, .inr (4, [.int 0, .ref ed, .int 0])), (ou, .inl (cO, 1, .inr (.inl (fun _ => 0)))), (od, .inl (cD, 1, .inr (.inr (.inr (.inl (fun _ => 0)))))), (x, .inr (11, [.ref a1, .ref a2, .ref a3, .ref a4, .ref tt, .int 0, .ref rr, .ref cq])), (a4, .inr (4, [.int 0, .ref ed, .int 0])), (b4, .inr (4, [.int 0, .ref ed, .int 0])), (mo, .inr (15, [.ref b1, .ref b2, .ref b3, .ref b4, .ref b5, .int 1]))] H := hP
  have hD : va_D (fun q : Nat => s.heap.size ≤ q) [(a1, .inr (4, [.int 0, .ref ed, .int 0])), (a2, .inr (4, [.int 0, .ref ed, .int 0])), (a3, .inr (4, [.int 0, .ref ed, .int 0])), (tt, .inl (cT, 24, .inl (fun _ => 0))), (rr, .inr (6, [.ref t1, .ref t2, .int 0, .int 0, .long 0, .long 0])), (b1, .inr (4, [.int 0, .ref ed, .int 0])), (b2, .inr (4, [.int 0, .ref ed, .int 0])), (b3, .inr (4, [.int 0, .ref ed, .int 0])), (b5, .inr (4, [.int 0, .ref ed, .int 0])), (ou, .inl (cO, 1, .inr (.inl (fun _ => 0)))), (od, .inl (cD, 1, .inr (.inr (.inr (.inl (fun _ => 0)))))), (x, .inr (11, [.ref a1, .ref a2, .ref a3, .ref a4, .ref tt, .int 0, .ref rr, .ref cq])), (a4, .inr (4, [.int 0, .ref ed, .int 0])), (b4, .inr (4, [.int 0, .ref ed, .int 0])), (mo, .inr (15, [.ref b1, .ref b2, .ref b3, .ref b4, .ref b5, .int 1]))] := hD
  have hK : va_K (dC, dI) vwCl [(cT, .int), (cO, .long), (cD, .double)] s := hK
  refine W.widen (k := 28) (n := 304) (Nat.le_of_ble_eq_true rfl) (Nat.le_of_ble_eq_true rfl) ?_
  have hw : r_577 = 1 := hw
  subst hw
  refine lv_iload hx hb dL_law_1446 (lv_at hl 1 rfl) ?_
  refine lv_icmp_eq (tgt := 1453) hx hb dL_law_1448 (by decide) (fun c_578 => ?_) (fun c_578 => absurd (by decide) c_578)
  refine lv_iload hx hb dL_law_1453 (lv_at hl 1 rfl) ?_
  refine lv_if_ne (tgt := 1477) hx hb dL_law_1455 (by decide) (fun c_579 => ?_) (fun c_579 => absurd c_579 (by decide))
  refine lv_goto (tgt := 3072) hx hb dL_law_1477 (by decide) ?_
  refine W.widen (k := 100) (n := 1000) (Nat.le_of_ble_eq_true rfl) (Nat.le_of_ble_eq_true rfl) ?_
  exact law_tail l C0 hS (lv_sub hl [2, 7] rfl)
set_option maxHeartbeats 4000000 in
set_option maxRecDepth 100000 in
theorem law_case_17 {p : Program} {e : Env} {s : State} {m : MethodId} {below : List Frame} {meth : Method} {c : Code} (l : Launch) (hl9 : l.stackTraces = false) (dC : Nat → ClassId) (dI : Nat → Nat → Nat) (ed : Nat) {b : Nat} {xs : Nat → Int32} (C0 : lw_At p s m meth c b 5 xs) (hZ : pz ed (fun q : Nat => s.heap.size ≤ q) s s.heap) (x a1 a2 a3 a4 tt rr cq t1 t2 mo b1 b2 b3 b4 b5 ou od : Nat) (cT cO cD : ClassId) {H : Heap} {locs : List Loc} (hK : va_K (dC, dI) vwCl [(cT, .int), (cO, .long), (cD, .double)] s) (hP : va_P (dC, dI) vwCl [(x, .inr (11, [.ref a1, .ref a2, .ref a3, .ref a4, .ref tt, .int 0, .ref rr, .ref cq])), (a1, .inr (4, [.int 0, .ref ed, .int 0])), (a2, .inr (4, [.int 0, .ref ed, .int 0])), (a3, .inr (4, [.int 0, .ref ed, .int 0])), (a4, .inr (4, [.int 0, .ref ed, .int 0])), (tt, .inl (cT, 24, .inl (fun _ => 0))), (rr, .inr (6, [.ref t1, .ref t2, .int 0, .int 0, .long 0, .long 0])), (mo, .inr (15, [.ref b1, .ref b2, .ref b3, .ref b4, .ref b5, .int 0])), (b1, .inr (4, [.int 0, .ref ed, .int 0])), (b2, .inr (4, [.int 0, .ref ed, .int 0])), (b3, .inr (4, [.int 0, .ref ed, .int 0])), (b4, .inr (4, [.int 0, .ref ed, .int 0])), (b5, .inr (4, [.int 0, .ref ed, .int 0])), (ou, .inl (cO, 1, .inr (.inl (fun _ => 0)))), (od, .inl (cD, 1, .inr (.inr (.inr (.inl (fun _ => 0))))))] H) (hD : va_D (fun q : Nat => s.heap.size ≤ q) [(x, .inr (11, [.ref a1, .ref a2, .ref a3, .ref a4, .ref tt, .int 0, .ref rr, .ref cq])), (a1, .inr (4, [.int 0, .ref ed, .int 0])), (a2, .inr (4, [.int 0, .ref ed, .int 0])), (a3, .inr (4, [.int 0, .ref ed, .int 0])), (a4, .inr (4, [.int 0, .ref ed, .int 0])), (tt, .inl (cT, 24, .inl (fun _ => 0))), (rr, .inr (6, [.ref t1, .ref t2, .int 0, .int 0, .long 0, .long 0])), (mo, .inr (15, [.ref b1, .ref b2, .ref b3, .ref b4, .ref b5, .int 0])), (b1, .inr (4, [.int 0, .ref ed, .int 0])), (b2, .inr (4, [.int 0, .ref ed, .int 0])), (b3, .inr (4, [.int 0, .ref ed, .int 0])), (b4, .inr (4, [.int 0, .ref ed, .int 0])), (b5, .inr (4, [.int 0, .ref ed, .int 0])), (ou, .inl (cO, 1, .inr (.inl (fun _ => 0)))), (od, .inl (cD, 1, .inr (.inr (.inr (.inl (fun _ => 0))))))]) (hS : va_S (fun q : Nat => s.heap.size ≤ q) s.heap H locs) {ls : Array Slot} (hl : lv_has ls 9 [(5, .int 0), (4, .ref od), (3, .ref ou), (2, .ref mo), (1, .ref x), (0, .ref b)]) : W p l e room_1 s m #[Value.ref b] below meth c H locs 27 298 (lw_Z below #[Value.ref b] s) (F0 m 1480 ls []) := by
  obtain ⟨hx, hb, hr, hml, hown, hts0, hX, hbl, hlocks, hgv⟩ := id C0
  have hts : ∀ w ∈ pw_all, w.before #[Value.ref b] s = true := fun w h => hts0 w (pw_tbl h)
  have hA : ∀ q : Nat, s.heap.size ≤ q → (fun q : Nat => s.heap.size ≤ q) q := fun _ h => h
  have hbA : ¬ (fun q : Nat => s.heap.size ≤ q) b := Nat.not_le.mpr hbl
  refine lv_aload_n hx hb dL_law_1480 rfl (lv_at hl 4 rfl) ?_
  refine lv_aload_n hx hb dL_law_1481 rfl (lv_at hl 5 rfl) ?_
  refine lv_iload hx hb dL_law_1482 (lv_at hl 0 rfl) ?_
  refine lv_iconst (v := 1) hx hb dL_law_1484 (by decide) ?_
  refine lv_iadd hx hb dL_law_1485 ?_
  refine lv_numI (v := 1) (by decide) ?_
  refine va_sld hx hb hX hbl hbA hS (by unfold vp_in; decide) dL_law_1486 ?_
  refine lv_aload_n hx hb dL_law_1487 rfl (lv_at hl 5 rfl) ?_
  refine lv_iload hx hb dL_law_1488 (lv_at hl 0 rfl) ?_
  refine lv_iconst (v := 2) hx hb dL_law_1490 (by decide) ?_
  refine lv_iadd hx hb dL_law_1491 ?_
  refine lv_numI (v := 2) (by decide) ?_
  refine va_sld hx hb hX hbl hbA hS (by unfold vp_in; decide) dL_law_1492 ?_
  refine lv_aload_n hx hb dL_law_1493 rfl (lv_at hl 2 rfl) ?_
  have hPc := hP.sub (ws' := [(x, .inr (11, [.ref a1, .ref a2, .ref a3, .ref a4, .ref tt, .int 0, .ref rr, .ref cq])), (a4, .inr (4, [.int 0, .ref ed, .int 0]))]) [0, 4] rfl
  have hDc := hD.sub (ws' := [(x, .inr (11, [.ref a1, .ref a2, .ref a3, .ref a4, .ref tt, .int 0, .ref rr, .ref cq])), (a4, .inr (4, [.int 0, .ref ed, .int 0]))]) [0, 4] (by decide) rfl
  have hKc := hK.sub (tys' := []) [] rfl
  have hFc := va_free (wc := [(x, .inr (11, [.ref a1, .ref a2, .ref a3, .ref a4, .ref tt, .int 0, .ref rr, .ref cq])), (a4, .inr (4, [.int 0, .ref ed, .int 0]))]) hD hS hA [0, 4] rfl
  refine va_calli (vx_runSW (As := [.ref x, .int (xs (Int32.toNatClampNeg 1)), .int (xs (Int32.toNatClampNeg 2)), .ref ou]) (rest := []) ⟨hx, hb, hml, hown, hts⟩ (w_getDrive l hl9 dC dI H.size ed x a4 (.ref a1) (.ref a2) (.ref a3) (.ref tt) (.int 0) (.ref rr) (.ref cq) (.int 0) (.ref ed) (xs (Int32.toNatClampNeg 1)) (xs (Int32.toNatClampNeg 2)) ou) (vx_cwSW 4 hts (pw_S q918 q919 q42 q920) rfl rfl rfl (by decide +kernel) ⟨(Nat.le_of_ble_eq_true rfl), (Nat.le_of_ble_eq_true rfl)⟩) ⟨fun a U g mk q => by obtain ⟨q0, q1, qP, qK, qD, qZ⟩ := q; exact ⟨q0, q1, qP, va_K.moved (u := U) (U := U.calling g mk a) (Vm.Alike.refl U.vm) qK, qD, qZ.same rfl⟩, fun U hU hW => ⟨rfl, by rw [hU], by rw [hU]; exact hPc, va_K.moved hW.alike hKc, hDc.weaken (fun _ _ _ _ => trivial), hZ.call hS hFc hU hW⟩⟩ rfl rfl hl.1 rfl (lv_room (Nat.le_of_ble_eq_true rfl)) dL_law_1494 ⟨(Nat.le_of_ble_eq_true rfl), (Nat.le_of_ble_eq_true rfl)⟩) hS (fun q _ h => hFc q h) hFc (fun r_580 u t H1 locs ht hvm hw hB hz1 hk1 hS => ?_)
  obtain ⟨hP1, hK1, hD1⟩ := hB
  rw [ht] at hP1
  have hK1 := va_K.moved hvm.symm hK1
  obtain ⟨hP, hD⟩ := va_join (wr := [(a1, .inr (4, [.int 0, .ref ed, .int 0])), (a2, .inr (4, [.int 0, .ref ed, .int 0])), (a3, .inr (4, [.int 0, .ref ed, .int 0])), (tt, .inl (cT, 24, .inl (fun _ => 0))), (rr, .inr (6, [.ref t1, .ref t2, .int 0, .int 0, .long 0, .long 0])), (mo, .inr (15, [.ref b1, .ref b2, .ref b3, .ref b4, .ref b5, .int 0])), (b1, .inr (4, [.int 0, .ref ed, .int 0])), (b2, .inr (4, [.int 0, .ref ed, .int 0])), (b3, .inr (4, [.int 0, .ref ed, .int 0])), (b4, .inr (4, [.int 0, .ref ed, .int 0])), (b5, .inr (4, [.int 0, .ref ed, .int 0])), (ou, .inl (cO, 1, .inr (.inl (fun _ => 0)))), (od, .inl (cD, 1, .inr (.inr (.inr (.inl (fun _ => 0))))))]) (w1 := [(x, .inr (11, [.ref a1, .ref a2, .ref a3, .ref a4, .ref tt, .int 0, .ref rr, .ref cq])), (a4, .inr (4, [.int 0, .ref ed, .int 0]))]) hP hD [0, 4] [1, 2, 3, 5, 6, 7, 8, 9, 10, 11, 12, 13, 14] rfl rfl (by decide) (by decide) hk1 hFc hP1 hD1
  have hK := (hK.sub (tys' := [(cT, .int), (cO, .long), (cD, .double)]) [0, 1, 2] rfl).app hK1
  generalize H1 = H at hP hS ⊢
  have hP : va_P (dC, dI) vwCl [(a1, .inr (4, [.int 0, .ref ed, .int 0])), (a2, .inr (4, [.int 0, .ref ed, .int 0])), (a3, .inr (4, [.int 0, .ref ed, .int 0])), (tt, .inl (cT, 24, .inl (fun _ => 0))), (rr, .inr (6, [.ref t1, .ref t2, .int 0, .int 0, .long 0, .long 0])), (mo, .inr (15, [.ref b1, .ref b2, .ref b3, .ref b4, .ref b5, .int 0])), (b1, .inr (4, [.int 0, .ref ed, .int 0])), (b2, .inr (4, [.int 0, .ref ed, .int 0])), (b3, .inr (4, [.int 0, .ref ed, .int 0])), (b4, .inr (4, [.int 0, .ref ed, .int 0])), (b5, .inr (4, [.int 0, .ref ed, .int 0])), (ou, .inl (cO, 1, .inr (.inl (fun _ => 0)))), (od, .inl (cD, 1, .inr (.inr (.inr (.inl (fun _ => 0)))))), (x, .inr (11, [.ref a1, .ref a2, .ref a3, .ref a4, .ref tt, .int 0, .ref rr, .ref cq])), (a4, .inr (4, [.int 0, .ref ed, .int 0]))] H := hP
  have hD : va_D (fun q : Nat => s.heap.size ≤ q) [(a1, .inr (4, [.int 0, .ref ed, .int 0])), (a2, .inr (4, [.int 0, .ref ed, .int 0])), (a3, .inr (4, [.int 0, .ref ed, .int 0])), (tt, .inl (cT, 24, .inl (fun _ => 0))), (rr, .inr (6, [.ref t1, .ref t2, .int 0, .int 0, .long 0, .long 0])), (mo, .inr (15, [.ref b1, .ref b2, .ref b3, .ref b4, .ref b5, .int 0])), (b1, .inr (4, [.int 0, .ref ed, .int 0])), (b2, .inr (4, [.int 0, .ref ed, .int 0])), (b3, .inr (4, [.int 0, .ref ed, .int 0])), (b4, .inr (4, [.int 0, .ref ed, .int 0])), (b5, .inr (4, [.int 0, .ref ed, .int 0])), (ou, .inl (cO, 1, .inr (.inl (fun _ => 0)))), (od, .inl (cD, 1, .inr (.inr (.inr (.inl (fun _ => 0)))))), (x, .inr (11, [.ref a1, .ref a2, .ref a3, .ref a4, .ref tt, .int 0, .ref rr, .ref cq])), (a4, .inr (4, [.int 0, .ref ed, .int 0]))] := hD
  have hK : va_K (dC, dI) vwCl [(cT, .int), (cO, .long), (cD, .double)] s := hK
  refine W.widen (k := 28) (n := 304) (Nat.le_of_ble_eq_true rfl) (Nat.le_of_ble_eq_true rfl) ?_
  have hw : r_580 = 1 := hw
  subst hw
  refine lv_istore (lv' := [(6, .int 1), (5, .int 0), (4, .ref od), (3, .ref ou), (2, .ref mo), (1, .ref x), (0, .ref b)]) hx hb dL_law_1497 hl (by decide) rfl (fun ls hl => ?_)
  refine lv_aload_n hx hb dL_law_1499 rfl (lv_at hl 4 rfl) ?_
  refine lv_aload_n hx hb dL_law_1500 rfl (lv_at hl 6 rfl) ?_
  refine lv_iload hx hb dL_law_1501 (lv_at hl 1 rfl) ?_
  refine lv_iconst (v := 1) hx hb dL_law_1503 (by decide) ?_
  refine lv_iadd hx hb dL_law_1504 ?_
  refine lv_numI (v := 1) (by decide) ?_
  refine va_sld hx hb hX hbl hbA hS (by unfold vp_in; decide) dL_law_1505 ?_
  refine lv_aload_n hx hb dL_law_1506 rfl (lv_at hl 6 rfl) ?_
  refine lv_iload hx hb dL_law_1507 (lv_at hl 1 rfl) ?_
  refine lv_iconst (v := 2) hx hb dL_law_1509 (by decide) ?_
  refine lv_iadd hx hb dL_law_1510 ?_
  refine lv_numI (v := 2) (by decide) ?_
  refine va_sld hx hb hX hbl hbA hS (by unfold vp_in; decide) dL_law_1511 ?_
  have hPc := hP.sub (ws' := [(mo, .inr (15, [.ref b1, .ref b2, .ref b3, .ref b4, .ref b5, .int 0])), (b4, .inr (4, [.int 0, .ref ed, .int 0]))]) [5, 9] rfl
  have hDc := hD.sub (ws' := [(mo, .inr (15, [.ref b1, .ref b2, .ref b3, .ref b4, .ref b5, .int 0])), (b4, .inr (4, [.int 0, .ref ed, .int 0]))]) [5, 9] (by decide) rfl
  have hKc := hK.sub (tys' := []) [] rfl
  have hFc := va_free (wc := [(mo, .inr (15, [.ref b1, .ref b2, .ref b3, .ref b4, .ref b5, .int 0])), (b4, .inr (4, [.int 0, .ref ed, .int 0]))]) hD hS hA [5, 9] rfl
  refine va_calli (va_runV (As := [.int (xs (Int32.toNatClampNeg 1)), .int (xs (Int32.toNatClampNeg 2))]) (rest := []) ⟨hx, hb, hml, hown, hts⟩ (y_getDrive l dC dI H.size mo b4 (.ref b1) (.ref b2) (.ref b3) (.ref b5) (.int 0) (.ref ed) 0 (xs (Int32.toNatClampNeg 1)) (xs (Int32.toNatClampNeg 2))) (cwV 2 hts (pw_V q1621 q1622 q1623 q49 q1624) rfl rfl rfl (by decide +kernel) ⟨(Nat.le_of_ble_eq_true rfl), (Nat.le_of_ble_eq_true rfl)⟩) ⟨fun a U g mk q => by obtain ⟨q0, q1, qP, qK, qD⟩ := q; exact ⟨q0, q1, qP, va_K.moved (u := U) (U := U.calling g mk a) (Vm.Alike.refl U.vm) qK, qD⟩, va_recv hKc hPc (ci := 15) (q0 := 0) rfl rfl, fun U hU hW => ⟨rfl, by rw [hU], by rw [hU]; exact hPc, va_K.moved hW.alike hKc, hDc.weaken (fun _ _ _ _ => trivial)⟩⟩ rfl rfl hl.1 rfl (lv_room (Nat.le_of_ble_eq_true rfl)) dL_law_1512 ⟨(Nat.le_of_ble_eq_true rfl), (Nat.le_of_ble_eq_true rfl)⟩) hS (fun q _ h => hFc q h) hFc (fun r_581 u t H1 locs ht hvm hw hB hz1 hk1 hS => ?_)
  obtain ⟨hP1, hK1, hD1⟩ := hB
  rw [ht] at hP1
  have hK1 := va_K.moved hvm.symm hK1
  obtain ⟨hP, hD⟩ := va_join (wr := [(a1, .inr (4, [.int 0, .ref ed, .int 0])), (a2, .inr (4, [.int 0, .ref ed, .int 0])), (a3, .inr (4, [.int 0, .ref ed, .int 0])), (tt, .inl (cT, 24, .inl (fun _ => 0))), (rr, .inr (6, [.ref t1, .ref t2, .int 0, .int 0, .long 0, .long 0])), (b1, .inr (4, [.int 0, .ref ed, .int 0])), (b2, .inr (4, [.int 0, .ref ed, .int 0])), (b3, .inr (4, [.int 0, .ref ed, .int 0])), (b5, .inr (4, [.int 0, .ref ed, .int 0])), (ou, .inl (cO, 1, .inr (.inl (fun _ => 0)))), (od, .inl (cD, 1, .inr (.inr (.inr (.inl (fun _ => 0)))))), (x, .inr (11, [.ref a1, .ref a2, .ref a3, .ref a4, .ref tt, .int 0, .ref rr, .ref cq])), (a4, .inr (4, [.int 0, .ref ed, .int 0]))]) (w1 := [(mo, .inr (15, [.ref b1, .ref b2, .ref b3, .ref b4, .ref b5, .int 1])), (b4, .inr (4, [.int 0, .ref ed, .int 0]))]) hP hD [5, 9] [0, 1, 2, 3, 4, 6, 7, 8, 10, 11, 12, 13, 14] rfl rfl (by decide) (by decide) hk1 hFc hP1 hD1
  have hK := (hK.sub (tys' := [(cT, .int), (cO, .long), (cD, .double)]) [0, 1, 2] rfl).app hK1
  generalize H1 = H at hP hS ⊢
  have hP : va_P (dC, dI) vwCl [(a1, .inr (4, [.int 0, .ref ed, .int 0])), (a2, .inr (4, [.int 0, .ref ed, .int 0])), (a3, .inr (4, [.int 0, .ref ed, .int 0])), (tt, .inl (cT, 24, .inl (fun _ => 0))), (rr, .inr (6, [.ref t1, .ref t2, .int 0, .int 0, .long 0, .long 0])), (b1, .inr (4, [.int 0, .ref ed, .int 0])), (b2, .inr (4, [.int 0, .ref ed, .int 0])), (b3, .inr (4, [.int 0, .ref ed, .int 0])), (b5, .inr (4, [.int 0, .ref ed, .int 0])), (ou, .inl (cO, 1, .inr (.inl (fun _ => 0)))), (od, .inl (cD, 1, .inr (.inr (.inr (.inl (fun _ => 0)))))), (x, .inr (11, [.ref a1, .ref a2, .ref a3, .ref a4, .ref tt, .int 0, .ref rr, .ref cq])), (a4, .inr (4, [.int 0, .ref ed, .int 0])), (mo, .inr (15, [.ref b1, .ref b2, .ref b3, .ref b4, .ref b5, .int 1])), (b4, .inr (4, [.int 0, .ref ed, .int 0]))] H := hP
  have hD : va_D (fun q : Nat => s.heap.size ≤ q) [(a1, .inr (4, [.int 0, .ref ed, .int 0])), (a2, .inr (4, [.int 0, .ref ed, .int 0])), (a3, .inr (4, [.int 0, .ref ed, .int 0])), (tt, .inl (cT, 24, .inl (fun _ => 0))), (rr, .inr (6, [.ref t1, .ref t2, .int 0, .int 0, .long 0, .long 0])), (b1, .inr (4, [.int 0, .ref ed, .int 0])), (b2, .inr (4, [.int 0, .ref ed, .int 0])), (b3, .inr (4, [.int 0, .ref ed, .int 0])), (b5, .inr (4, [.int 0, .ref ed, .int 0])), (ou, .inl (cO, 1, .inr (.inl (fun _ => 0)))), (od, .inl (cD, 1, .inr (.inr (.inr (.inl (fun _ => 0)))))), (x, .inr (11, [.ref a1, .ref a2, .ref a3, .ref a4, .ref tt, .int 0, .ref rr, .ref cq])), (a4, .inr (4, [.int 0, .ref ed, .int 0])), (mo, .inr (15, [.ref b1, .ref b2, .ref b3, .ref b4, .ref b5, .int 1])), (b4, .inr (4, [.int 0, .ref ed, .int 0]))] := hD
  have hK : va_K (dC, dI) vwCl [(cT, .int), (cO, .long), (cD, .double)] s := hK
  refine W.widen (k := 28) (n := 304) (Nat.le_of_ble_eq_true rfl) (Nat.le_of_ble_eq_true rfl) ?_
  have hw : r_581 = 0 := hw
  subst hw
  refine lv_istore (lv' := [(7, .int 0), (6, .int 1), (5, .int 0), (4, .ref od), (3, .ref ou), (2, .ref mo), (1, .ref x), (0, .ref b)]) hx hb dL_law_1515 hl (by decide) rfl (fun ls hl => ?_)
  refine lv_aload_n hx hb dL_law_1517 rfl (lv_at hl 5 rfl) ?_
  have hPc := hP.sub (ws' := [(mo, .inr (15, [.ref b1, .ref b2, .ref b3, .ref b4, .ref b5, .int 1]))]) [13] rfl
  have hDc := hD.sub (ws' := [(mo, .inr (15, [.ref b1, .ref b2, .ref b3, .ref b4, .ref b5, .int 1]))]) [13] (by decide) rfl
  have hKc := hK.sub (tys' := []) [] rfl
  have hFc := va_free (wc := [(mo, .inr (15, [.ref b1, .ref b2, .ref b3, .ref b4, .ref b5, .int 1]))]) hD hS hA [13] rfl
  refine va_calli (va_runV (As := []) (rest := []) ⟨hx, hb, hml, hown, hts⟩ (n_thrown l dC dI H.size mo (.ref b1) (.ref b2) (.ref b3) (.ref b4) (.ref b5) 1) (cwV 0 hts (pw_V q1244 q1245 q1246 q49 q1247) rfl rfl rfl (by decide +kernel) ⟨(Nat.le_of_ble_eq_true rfl), (Nat.le_of_ble_eq_true rfl)⟩) ⟨fun a U g mk q => by obtain ⟨q0, q1, qP, qK, qD⟩ := q; exact ⟨q0, q1, qP, va_K.moved (u := U) (U := U.calling g mk a) (Vm.Alike.refl U.vm) qK, qD⟩, va_recv hKc hPc (ci := 15) (q0 := 0) rfl rfl, fun U hU hW => ⟨rfl, by rw [hU], by rw [hU]; exact hPc, va_K.moved hW.alike hKc, hDc.weaken (fun _ _ _ _ => trivial)⟩⟩ rfl rfl hl.1 rfl (lv_room (Nat.le_of_ble_eq_true rfl)) dL_law_1518 ⟨(Nat.le_of_ble_eq_true rfl), (Nat.le_of_ble_eq_true rfl)⟩) hS (fun q _ h => hFc q h) hFc (fun r_582 u t H1 locs ht hvm hw hB hz1 hk1 hS => ?_)
  obtain ⟨hP1, hK1, hD1⟩ := hB
  rw [ht] at hP1
  have hK1 := va_K.moved hvm.symm hK1
  obtain ⟨hP, hD⟩ := va_join (wr := [(a1, .inr (4, [.int 0, .ref ed, .int 0])), (a2, .inr (4, [.int 0, .ref ed, .int 0])), (a3, .inr (4, [.int 0, .ref ed, .int 0])), (tt, .inl (cT, 24, .inl (fun _ => 0))), (rr, .inr (6, [.ref t1, .ref t2, .int 0, .int 0, .long 0, .long 0])), (b1, .inr (4, [.int 0, .ref ed, .int 0])), (b2, .inr (4, [.int 0, .ref ed, .int 0])), (b3, .inr (4, [.int 0, .ref ed, .int 0])), (b5, .inr (4, [.int 0, .ref ed, .int 0])), (ou, .inl (cO, 1, .inr (.inl (fun _ => 0)))), (od, .inl (cD, 1, .inr (.inr (.inr (.inl (fun _ => 0)))))), (x, .inr (11, [.ref a1, .ref a2, .ref a3, .ref a4, .ref tt, .int 0, .ref rr, .ref cq])), (a4, .inr (4, [.int 0, .ref ed, .int 0])), (b4, .inr (4, [.int 0, .ref ed, .int 0]))]) (w1 := [(mo, .inr (15, [.ref b1, .ref b2, .ref b3, .ref b4, .ref b5, .int 1]))]) hP hD [13] [0, 1, 2, 3, 4, 5, 6, 7, 8, 9, 10, 11, 12, 14] rfl rfl (by decide) (by decide) hk1 hFc hP1 hD1
  have hK := (hK.sub (tys' := [(cT, .int), (cO, .long), (cD, .double)]) [0, 1, 2] rfl).app hK1
  generalize H1 = H at hP hS ⊢
  have hP : va_P (dC, dI) vwCl [(a1, .inr (4, [.int 0, .ref ed, .int 0])), (a2, .inr (4, [.int 0, .ref ed, .int 0])), (a3, .inr (4, [.int 0, .ref ed, .int 0])), (tt, .inl (cT, 24, .inl (fun _ => 0))), (rr, .inr (6, [.ref t1, .ref t2, .int 0, .int 0, .long 0, .long 0])), (b1, .inr (4, [.int 0, .ref ed, .int 0])), (b2, .inr (4, [.int 0, .ref ed, .int 0])), (b3, .inr (4, [.int 0, .ref ed, .int 0])), (b5, .inr (4, [.int 0, .ref ed, .int 0])), (ou, .inl (cO, 1, .inr (.inl (fun _ => 0)))), (od, .inl (cD, 1, .inr (.inr (.inr (.inl (fun _ => 0)))))), (x, .inr (11, [.ref a1, .ref a2, .ref a3, .ref a4, .ref tt, .int 0, .ref rr, .ref cq])), (a4, .inr (4, [.int 0, .ref ed, .int 0])), (b4, .inr (4, [.int 0, .ref ed, .int 0])), (mo, .inr (15, [.ref b1, .ref b2, .ref b3, .ref b4, .ref b5, .int 1]))] H := hP
  have hD : va_D (fun q : Nat => s.heap.size ≤ q) [(a1, .inr (4, [.int 0, .ref ed, .int 0])), (a2, .inr (4, [.int 0, .ref ed, .int 0])), (a3, .inr (4, [.int 0, .ref ed, .int 0])), (tt, .inl (cT, 24, .inl (fun _ => 0))), (rr, .inr (6, [.ref t1, .ref t2, .int 0, .int 0, .long 0, .long 0])), (b1, .inr (4, [.int 0, .ref ed, .int 0])), (b2, .inr (4, [.int 0, .ref ed, .int 0])), (b3, .inr (4, [.int 0, .ref ed, .int 0])), (b5, .inr (4, [.int 0, .ref ed, .int 0])), (ou, .inl (cO, 1, .inr (.inl (fun _ => 0)))), (od, .inl (cD, 1, .inr (.inr (.inr (.inl (fun _ => 0)))))), (x, .inr (11, [.ref a1, .ref a2, .ref a3, .ref a4, .ref tt, .int 0, .ref rr, .ref cq])), (a4, .inr (4, [.int 0, .ref ed, .int 0])), (b4, .inr (4, [.int 0, .ref ed, .int 0])), (mo, .inr (15, [.ref b1, .ref b2, .ref b3, .ref b4, .ref b5, .int 1]))] := hD
  have hK : va_K (dC, dI) vwCl [(cT, .int), (cO, .long), (cD, .double)] s := hK
  refine W.widen (k := 28) (n := 304) (Nat.le_of_ble_eq_true rfl) (Nat.le_of_ble_eq_true rfl) ?_
  have hw : r_582 = 1 := hw
  subst hw
  refine lv_iload hx hb dL_law_1521 (lv_at hl 1 rfl) ?_
  refine lv_icmp_eq (tgt := 1528) hx hb dL_law_1523 (by decide) (fun c_583 => ?_) (fun c_583 => absurd (by decide) c_583)
  refine lv_iload hx hb dL_law_1528 (lv_at hl 1 rfl) ?_
  refine lv_if_ne (tgt := 1545) hx hb dL_law_1530 (by decide) (fun c_584 => ?_) (fun c_584 => absurd c_584 (by decide))
  refine lv_goto (tgt := 3072) hx hb dL_law_1545 (by decide) ?_
  refine W.widen (k := 100) (n := 1000) (Nat.le_of_ble_eq_true rfl) (Nat.le_of_ble_eq_true rfl) ?_
  exact law_tail l C0 hS (lv_sub hl [2, 7] rfl)
set_option maxHeartbeats 4000000 in
set_option maxRecDepth 100000 in
theorem law_case_18 {p : Program} {e : Env} {s : State} {m : MethodId} {below : List Frame} {meth : Method} {c : Code} (l : Launch) (hl9 : l.stackTraces = false) (dC : Nat → ClassId) (dI : Nat → Nat → Nat) (ed : Nat) {b : Nat} {xs : Nat → Int32} (C0 : lw_At p s m meth c b 5 xs) (hZ : pz ed (fun q : Nat => s.heap.size ≤ q) s s.heap) (x a1 a2 a3 a4 tt rr cq t1 t2 mo b1 b2 b3 b4 b5 ou od : Nat) (cT cO cD : ClassId) {H : Heap} {locs : List Loc} (hK : va_K (dC, dI) vwCl [(cT, .int), (cO, .long), (cD, .double)] s) (hP : va_P (dC, dI) vwCl [(x, .inr (11, [.ref a1, .ref a2, .ref a3, .ref a4, .ref tt, .int 0, .ref rr, .ref cq])), (a1, .inr (4, [.int 0, .ref ed, .int 0])), (a2, .inr (4, [.int 0, .ref ed, .int 0])), (a3, .inr (4, [.int 0, .ref ed, .int 0])), (a4, .inr (4, [.int 0, .ref ed, .int 0])), (tt, .inl (cT, 24, .inl (fun _ => 0))), (rr, .inr (6, [.ref t1, .ref t2, .int 0, .int 0, .long 0, .long 0])), (mo, .inr (15, [.ref b1, .ref b2, .ref b3, .ref b4, .ref b5, .int 0])), (b1, .inr (4, [.int 0, .ref ed, .int 0])), (b2, .inr (4, [.int 0, .ref ed, .int 0])), (b3, .inr (4, [.int 0, .ref ed, .int 0])), (b4, .inr (4, [.int 0, .ref ed, .int 0])), (b5, .inr (4, [.int 0, .ref ed, .int 0])), (ou, .inl (cO, 1, .inr (.inl (fun _ => 0)))), (od, .inl (cD, 1, .inr (.inr (.inr (.inl (fun _ => 0))))))] H) (hD : va_D (fun q : Nat => s.heap.size ≤ q) [(x, .inr (11, [.ref a1, .ref a2, .ref a3, .ref a4, .ref tt, .int 0, .ref rr, .ref cq])), (a1, .inr (4, [.int 0, .ref ed, .int 0])), (a2, .inr (4, [.int 0, .ref ed, .int 0])), (a3, .inr (4, [.int 0, .ref ed, .int 0])), (a4, .inr (4, [.int 0, .ref ed, .int 0])), (tt, .inl (cT, 24, .inl (fun _ => 0))), (rr, .inr (6, [.ref t1, .ref t2, .int 0, .int 0, .long 0, .long 0])), (mo, .inr (15, [.ref b1, .ref b2, .ref b3, .ref b4, .ref b5, .int 0])), (b1, .inr (4, [.int 0, .ref ed, .int 0])), (b2, .inr (4, [.int 0, .ref ed, .int 0])), (b3, .inr (4, [.int 0, .ref ed, .int 0])), (b4, .inr (4, [.int 0, .ref ed, .int 0])), (b5, .inr (4, [.int 0, .ref ed, .int 0])), (ou, .inl (cO, 1, .inr (.inl (fun _ => 0)))), (od, .inl (cD, 1, .inr (.inr (.inr (.inl (fun _ => 0))))))]) (hS : va_S (fun q : Nat => s.heap.size ≤ q) s.heap H locs) {ls : Array Slot} (hl : lv_has ls 9 [(5, .int 0), (4, .ref od), (3, .ref ou), (2, .ref mo), (1, .ref x), (0, .ref b)]) : W p l e room_1 s m #[Value.ref b] below meth c H locs 27 298 (lw_Z below #[Value.ref b] s) (F0 m 1548 ls []) := by
  obtain ⟨hx, hb, hr, hml, hown, hts0, hX, hbl, hlocks, hgv⟩ := id C0
  have hts : ∀ w ∈ pw_all, w.before #[Value.ref b] s = true := fun w h => hts0 w (pw_tbl h)
  have hA : ∀ q : Nat, s.heap.size ≤ q → (fun q : Nat => s.heap.size ≤ q) q := fun _ h => h
  have hbA : ¬ (fun q : Nat => s.heap.size ≤ q) b := Nat.not_le.mpr hbl
  refine lv_aload_n hx hb dL_law_1548 rfl (lv_at hl 4 rfl) ?_
  refine lv_aload_n hx hb dL_law_1549 rfl (lv_at hl 5 rfl) ?_
  refine lv_iload hx hb dL_law_1550 (lv_at hl 0 rfl) ?_
  refine lv_iconst (v := 1) hx hb dL_law_1552 (by decide) ?_
  refine lv_iadd hx hb dL_law_1553 ?_
  refine lv_numI (v := 1) (by decide) ?_
  refine va_sld hx hb hX hbl hbA hS (by unfold vp_in; decide) dL_law_1554 ?_
  refine lv_aload_n hx hb dL_law_1555 rfl (lv_at hl 2 rfl) ?_
  have hPc := hP.sub (ws' := [(x, .inr (11, [.ref a1, .ref a2, .ref a3, .ref a4, .ref tt, .int 0, .ref rr, .ref cq])), (a4, .inr (4, [.int 0, .ref ed, .int 0]))]) [0, 4] rfl
  have hDc := hD.sub (ws' := [(x, .inr (11, [.ref a1, .ref a2, .ref a3, .ref a4, .ref tt, .int 0, .ref rr, .ref cq])), (a4, .inr (4, [.int 0, .ref ed, .int 0]))]) [0, 4] (by decide) rfl
  have hKc := hK.sub (tys' := []) [] rfl
  have hFc := va_free (wc := [(x, .inr (11, [.ref a1, .ref a2, .ref a3, .ref a4, .ref tt, .int 0, .ref rr, .ref cq])), (a4, .inr (4, [.int 0, .ref ed, .int 0]))]) hD hS hA [0, 4] rfl
  refine va_calli (vx_runSW (As := [.ref x, .int (xs (Int32.toNatClampNeg 1)), .ref ou]) (rest := []) ⟨hx, hb, hml, hown, hts⟩ (w_turnLoop l hl9 dC dI H.size ed x a4 (.ref a1) (.ref a2) (.ref a3) (.ref tt) (.int 0) (.ref rr) (.ref cq) (.int 0) (.ref ed) (xs (Int32.toNatClampNeg 1)) ou) (vx_cwSW 3 hts (pw_S q925 q926 q42 q927) rfl rfl rfl (by decide +kernel) ⟨(Nat.le_of_ble_eq_true rfl), (Nat.le_of_ble_eq_true rfl)⟩) ⟨fun a U g mk q => by obtain ⟨q0, q1, qP, qK, qD, qZ⟩ := q; exact ⟨q0, q1, qP, va_K.moved (u := U) (U := U.calling g mk a) (Vm.Alike.refl U.vm) qK, qD, qZ.same rfl⟩, fun U hU hW => ⟨rfl, by rw [hU], by rw [hU]; exact hPc, va_K.moved hW.alike hKc, hDc.weaken (fun _ _ _ _ => trivial), hZ.call hS hFc hU hW⟩⟩ rfl rfl hl.1 rfl (lv_room (Nat.le_of_ble_eq_true rfl)) dL_law_1556 ⟨(Nat.le_of_ble_eq_true rfl), (Nat.le_of_ble_eq_true rfl)⟩) hS (fun q _ h => hFc q h) hFc (fun r_585 u t H1 locs ht hvm hw hB hz1 hk1 hS => ?_)
  obtain ⟨hP1, hK1, hD1⟩ := hB
  rw [ht] at hP1
  have hK1 := va_K.moved hvm.symm hK1
  obtain ⟨hP, hD⟩ := va_join (wr := [(a1, .inr (4, [.int 0, .ref ed, .int 0])), (a2, .inr (4, [.int 0, .ref ed, .int 0])), (a3, .inr (4, [.int 0, .ref ed, .int 0])), (tt, .inl (cT, 24, .inl (fun _ => 0))), (rr, .inr (6, [.ref t1, .ref t2, .int 0, .int 0, .long 0, .long 0])), (mo, .inr (15, [.ref b1, .ref b2, .ref b3, .ref b4, .ref b5, .int 0])), (b1, .inr (4, [.int 0, .ref ed, .int 0])), (b2, .inr (4, [.int 0, .ref ed, .int 0])), (b3, .inr (4, [.int 0, .ref ed, .int 0])), (b4, .inr (4, [.int 0, .ref ed, .int 0])), (b5, .inr (4, [.int 0, .ref ed, .int 0])), (ou, .inl (cO, 1, .inr (.inl (fun _ => 0)))), (od, .inl (cD, 1, .inr (.inr (.inr (.inl (fun _ => 0))))))]) (w1 := [(x, .inr (11, [.ref a1, .ref a2, .ref a3, .ref a4, .ref tt, .int 0, .ref rr, .ref cq])), (a4, .inr (4, [.int 0, .ref ed, .int 0]))]) hP hD [0, 4] [1, 2, 3, 5, 6, 7, 8, 9, 10, 11, 12, 13, 14] rfl rfl (by decide) (by decide) hk1 hFc hP1 hD1
  have hK := (hK.sub (tys' := [(cT, .int), (cO, .long), (cD, .double)]) [0, 1, 2] rfl).app hK1
  generalize H1 = H at hP hS ⊢
  have hP : va_P (dC, dI) vwCl [(a1, .inr (4, [.int 0, .ref ed, .int 0])), (a2, .inr (4, [.int 0, .ref ed, .int 0])), (a3, .inr (4, [.int 0, .ref ed, .int 0])), (tt, .inl (cT, 24, .inl (fun _ => 0))), (rr, .inr (6, [.ref t1, .ref t2, .int 0, .int 0, .long 0, .long 0])), (mo, .inr (15, [.ref b1, .ref b2, .ref b3, .ref b4, .ref b5, .int 0])), (b1, .inr (4, [.int 0, .ref ed, .int 0])), (b2, .inr (4, [.int 0, .ref ed, .int 0])), (b3, .inr (4, [.int 0, .ref ed, .int 0])), (b4, .inr (4, [.int 0, .ref ed, .int 0])), (b5, .inr (4, [.int 0, .ref ed, .int 0])), (ou, .inl (cO, 1, .inr (.inl (fun _ => 0)))), (od, .inl (cD, 1, .inr (.inr (.inr (.inl (fun _ => 0)))))), (x, .inr (11, [.ref a1, .ref a2, .ref a3, .ref a4, .ref tt, .int 0, .ref rr, .ref cq])), (a4, .inr (4, [.int 0, .ref ed, .int 0]))] H := hP
  have hD : va_D (fun q : Nat => s.heap.size ≤ q) [(a1, .inr (4, [.int 0, .ref ed, .int 0])), (a2, .inr (4, [.int 0, .ref ed, .int 0])), (a3, .inr (4, [.int 0, .ref ed, .int 0])), (tt, .inl (cT, 24, .inl (fun _ => 0))), (rr, .inr (6, [.ref t1, .ref t2, .int 0, .int 0, .long 0, .long 0])), (mo, .inr (15, [.ref b1, .ref b2, .ref b3, .ref b4, .ref b5, .int 0])), (b1, .inr (4, [.int 0, .ref ed, .int 0])), (b2, .inr (4, [.int 0, .ref ed, .int 0])), (b3, .inr (4, [.int 0, .ref ed, .int 0])), (b4, .inr (4, [.int 0, .ref ed, .int 0])), (b5, .inr (4, [.int 0, .ref ed, .int 0])), (ou, .inl (cO, 1, .inr (.inl (fun _ => 0)))), (od, .inl (cD, 1, .inr (.inr (.inr (.inl (fun _ => 0)))))), (x, .inr (11, [.ref a1, .ref a2, .ref a3, .ref a4, .ref tt, .int 0, .ref rr, .ref cq])), (a4, .inr (4, [.int 0, .ref ed, .int 0]))] := hD
  have hK : va_K (dC, dI) vwCl [(cT, .int), (cO, .long), (cD, .double)] s := hK
  refine W.widen (k := 28) (n := 304) (Nat.le_of_ble_eq_true rfl) (Nat.le_of_ble_eq_true rfl) ?_
  have hw : r_585 = 1 := hw
  subst hw
  refine lv_istore (lv' := [(6, .int 1), (5, .int 0), (4, .ref od), (3, .ref ou), (2, .ref mo), (1, .ref x), (0, .ref b)]) hx hb dL_law_1559 hl (by decide) rfl (fun ls hl => ?_)
  refine lv_aload_n hx hb dL_law_1561 rfl (lv_at hl 4 rfl) ?_
  refine lv_aload_n hx hb dL_law_1562 rfl (lv_at hl 6 rfl) ?_
  refine lv_iload hx hb dL_law_1563 (lv_at hl 1 rfl) ?_
  refine lv_iconst (v := 1) hx hb dL_law_1565 (by decide) ?_
  refine lv_iadd hx hb dL_law_1566 ?_
  refine lv_numI (v := 1) (by decide) ?_
  refine va_sld hx hb hX hbl hbA hS (by unfold vp_in; decide) dL_law_1567 ?_
  have hPc := hP.sub (ws' := [(mo, .inr (15, [.ref b1, .ref b2, .ref b3, .ref b4, .ref b5, .int 0])), (b4, .inr (4, [.int 0, .ref ed, .int 0]))]) [5, 9] rfl
  have hDc := hD.sub (ws' := [(mo, .inr (15, [.ref b1, .ref b2, .ref b3, .ref b4, .ref b5, .int 0])), (b4, .inr (4, [.int 0, .ref ed, .int 0]))]) [5, 9] (by decide) rfl
  have hKc := hK.sub (tys' := []) [] rfl
  have hFc := va_free (wc := [(mo, .inr (15, [.ref b1, .ref b2, .ref b3, .ref b4, .ref b5, .int 0])), (b4, .inr (4, [.int 0, .ref ed, .int 0]))]) hD hS hA [5, 9] rfl
  refine va_calli (va_runV (As := [.int (xs (Int32.toNatClampNeg 1))]) (rest := []) ⟨hx, hb, hml, hown, hts⟩ (y_turnLoop l dC dI H.size mo b4 (.ref b1) (.ref b2) (.ref b3) (.ref b5) (.int 0) (.ref ed) 0 (xs (Int32.toNatClampNeg 1))) (cwV 1 hts (pw_V q1625 q1626 q1627 q49 q1628) rfl rfl rfl (by decide +kernel) ⟨(Nat.le_of_ble_eq_true rfl), (Nat.le_of_ble_eq_true rfl)⟩) ⟨fun a U g mk q => by obtain ⟨q0, q1, qP, qK, qD⟩ := q; exact ⟨q0, q1, qP, va_K.moved (u := U) (U := U.calling g mk a) (Vm.Alike.refl U.vm) qK, qD⟩, va_recv hKc hPc (ci := 15) (q0 := 0) rfl rfl, fun U hU hW => ⟨rfl, by rw [hU], by rw [hU]; exact hPc, va_K.moved hW.alike hKc, hDc.weaken (fun _ _ _ _ => trivial)⟩⟩ rfl rfl hl.1 rfl (lv_room (Nat.le_of_ble_eq_true rfl)) dL_law_1568 ⟨(Nat.le_of_ble_eq_true rfl), (Nat.le_of_ble_eq_true rfl)⟩) hS (fun q _ h => hFc q h) hFc (fun r_586 u t H1 locs ht hvm hw hB hz1 hk1 hS => ?_)
  obtain ⟨hP1, hK1, hD1⟩ := hB
  rw [ht] at hP1
  have hK1 := va_K.moved hvm.symm hK1
  obtain ⟨hP, hD⟩ := va_join (wr := [(a1, .inr (4, [.int 0, .ref ed, .int 0])), (a2, .inr (4, [.int 0, .ref ed, .int 0])), (a3, .inr (4, [.int 0, .ref ed, .int 0])), (tt, .inl (cT, 24, .inl (fun _ => 0))), (rr, .inr (6, [.ref t1, .ref t2, .int 0, .int 0, .long 0, .long 0])), (b1, .inr (4, [.int 0, .ref ed, .int 0])), (b2, .inr (4, [.int 0, .ref ed, .int 0])), (b3, .inr (4, [.int 0, .ref ed, .int 0])), (b5, .inr (4, [.int 0, .ref ed, .int 0])), (ou, .inl (cO, 1, .inr (.inl (fun _ => 0)))), (od, .inl (cD, 1, .inr (.inr (.inr (.inl (fun _ => 0)))))), (x, .inr (11, [.ref a1, .ref a2, .ref a3, .ref a4, .ref tt, .int 0, .ref rr, .ref cq])), (a4, .inr (4, [.int 0, .ref ed, .int 0]))]) (w1 := [(mo, .inr (15, [.ref b1, .ref b2, .ref b3, .ref b4, .ref b5, .int 1])), (b4, .inr (4, [.int 0, .ref ed, .int 0]))]) hP hD [5, 9] [0, 1, 2, 3, 4, 6, 7, 8, 10, 11, 12, 13, 14] rfl rfl (by decide) (by decide) hk1 hFc hP1 hD1
  have hK := (hK.sub (tys' := [(cT, .int), (cO, .long), (cD, .double)]) [0, 1, 2] rfl).app hK1
  generalize H1 = H at hP hS ⊢
  have hP : va_P (dC, dI) vwCl [(a1, .inr (4, [.int 0, .ref ed, .int 0])), (a2, .inr (4, [.int 0, .ref ed, .int 0])), (a3, .inr (4, [.int 0, .ref ed, .int 0])), (tt, .inl (cT, 24, .inl (fun _ => 0))), (rr, .inr (6, [.ref t1, .ref t2, .int 0, .int 0, .long 0, .long 0])), (b1, .inr (4, [.int 0, .ref ed, .int 0])), (b2, .inr (4, [.int 0, .ref ed, .int 0])), (b3, .inr (4, [.int 0, .ref ed, .int 0])), (b5, .inr (4, [.int 0, .ref ed, .int 0])), (ou, .inl (cO, 1, .inr (.inl (fun _ => 0)))), (od, .inl (cD, 1, .inr (.inr (.inr (.inl (fun _ => 0)))))), (x, .inr (11, [.ref a1, .ref a2, .ref a3, .ref a4, .ref tt, .int 0, .ref rr, .ref cq])), (a4, .inr (4, [.int 0, .ref ed, .int 0])), (mo, .inr (15, [.ref b1, .ref b2, .ref b3, .ref b4, .ref b5, .int 1])), (b4, .inr (4, [.int 0, .ref ed, .int 0]))] H := hP
  have hD : va_D (fun q : Nat => s.heap.size ≤ q) [(a1, .inr (4, [.int 0, .ref ed, .int 0])), (a2, .inr (4, [.int 0, .ref ed, .int 0])), (a3, .inr (4, [.int 0, .ref ed, .int 0])), (tt, .inl (cT, 24, .inl (fun _ => 0))), (rr, .inr (6, [.ref t1, .ref t2, .int 0, .int 0, .long 0, .long 0])), (b1, .inr (4, [.int 0, .ref ed, .int 0])), (b2, .inr (4, [.int 0, .ref ed, .int 0])), (b3, .inr (4, [.int 0, .ref ed, .int 0])), (b5, .inr (4, [.int 0, .ref ed, .int 0])), (ou, .inl (cO, 1, .inr (.inl (fun _ => 0)))), (od, .inl (cD, 1, .inr (.inr (.inr (.inl (fun _ => 0)))))), (x, .inr (11, [.ref a1, .ref a2, .ref a3, .ref a4, .ref tt, .int 0, .ref rr, .ref cq])), (a4, .inr (4, [.int 0, .ref ed, .int 0])), (mo, .inr (15, [.ref b1, .ref b2, .ref b3, .ref b4, .ref b5, .int 1])), (b4, .inr (4, [.int 0, .ref ed, .int 0]))] := hD
  have hK : va_K (dC, dI) vwCl [(cT, .int), (cO, .long), (cD, .double)] s := hK
  refine W.widen (k := 28) (n := 304) (Nat.le_of_ble_eq_true rfl) (Nat.le_of_ble_eq_true rfl) ?_
  have hw : r_586 = 0 := hw
  subst hw
  refine lv_istore (lv' := [(7, .int 0), (6, .int 1), (5, .int 0), (4, .ref od), (3, .ref ou), (2, .ref mo), (1, .ref x), (0, .ref b)]) hx hb dL_law_1571 hl (by decide) rfl (fun ls hl => ?_)
  refine lv_aload_n hx hb dL_law_1573 rfl (lv_at hl 5 rfl) ?_
  have hPc := hP.sub (ws' := [(mo, .inr (15, [.ref b1, .ref b2, .ref b3, .ref b4, .ref b5, .int 1]))]) [13] rfl
  have hDc := hD.sub (ws' := [(mo, .inr (15, [.ref b1, .ref b2, .ref b3, .ref b4, .ref b5, .int 1]))]) [13] (by decide) rfl
  have hKc := hK.sub (tys' := []) [] rfl
  have hFc := va_free (wc := [(mo, .inr (15, [.ref b1, .ref b2, .ref b3, .ref b4, .ref b5, .int 1]))]) hD hS hA [13] rfl
  refine va_calli (va_runV (As := []) (rest := []) ⟨hx, hb, hml, hown, hts⟩ (n_thrown l dC dI H.size mo (.ref b1) (.ref b2) (.ref b3) (.ref b4) (.ref b5) 1) (cwV 0 hts (pw_V q1244 q1245 q1246 q49 q1247) rfl rfl rfl (by decide +kernel) ⟨(Nat.le_of_ble_eq_true rfl), (Nat.le_of_ble_eq_true rfl)⟩) ⟨fun a U g mk q => by obtain ⟨q0, q1, qP, qK, qD⟩ := q; exact ⟨q0, q1, qP, va_K.moved (u := U) (U := U.calling g mk a) (Vm.Alike.refl U.vm) qK, qD⟩, va_recv hKc hPc (ci := 15) (q0 := 0) rfl rfl, fun U hU hW => ⟨rfl, by rw [hU], by rw [hU]; exact hPc, va_K.moved hW.alike hKc, hDc.weaken (fun _ _ _ _ => trivial)⟩⟩ rfl rfl hl.1 rfl (lv_room (Nat.le_of_ble_eq_true rfl)) dL_law_1574 ⟨(Nat.le_of_ble_eq_true rfl), (Nat.le_of_ble_eq_true rfl)⟩) hS (fun q _ h => hFc q h) hFc (fun r_587 u t H1 locs ht hvm hw hB hz1 hk1 hS => ?_)
  obtain ⟨hP1, hK1, hD1⟩ := hB
  rw [ht] at hP1
  have hK1 := va_K.moved hvm.symm hK1
  obtain ⟨hP, hD⟩ := va_join (wr := [(a1, .inr (4, [.int 0, .ref ed, .int 0])), (a2, .inr (4, [.int 0, .ref ed, .int 0])), (a3, .inr (4, [.int 0, .ref ed, .int 0])), (tt, .inl (cT, 24, .inl (fun _ => 0))), (rr, .inr (6, [.ref t1, .ref t2, .int 0, .int 0, .long 0, .long 0])), (b1, .inr (4, [.int 0, .ref ed, .int 0])), (b2, .inr (4, [.int 0, .ref ed, .int 0])), (b3, .inr (4, [.int 0, .ref ed, .int 0])), (b5, .inr (4, [.int 0, .ref ed, .int 0])), (ou, .inl (cO, 1, .inr (.inl (fun _ => 0)))), (od, .inl (cD, 1, .inr (.inr (.inr (.inl (fun _ => 0)))))), (x, .inr (11, [.ref a1, .ref a2, .ref a3, .ref a4, .ref tt, .int 0, .ref rr, .ref cq])), (a4, .inr (4, [.int 0, .ref ed, .int 0])), (b4, .inr (4, [.int 0, .ref ed, .int 0]))]) (w1 := [(mo, .inr (15, [.ref b1, .ref b2, .ref b3, .ref b4, .ref b5, .int 1]))]) hP hD [13] [0, 1, 2, 3, 4, 5, 6, 7, 8, 9, 10, 11, 12, 14] rfl rfl (by decide) (by decide) hk1 hFc hP1 hD1
  have hK := (hK.sub (tys' := [(cT, .int), (cO, .long), (cD, .double)]) [0, 1, 2] rfl).app hK1
  generalize H1 = H at hP hS ⊢
  have hP : va_P (dC, dI) vwCl [(a1, .inr (4, [.int 0, .ref ed, .int 0])), (a2, .inr (4, [.int 0, .ref ed, .int 0])), (a3, .inr (4, [.int 0, .ref ed, .int 0])), (tt, .inl (cT, 24, .inl (fun _ => 0))), (rr, .inr (6, [.ref t1, .ref t2, .int 0, .int 0, .long 0, .long 0])), (b1, .inr (4, [.int 0, .ref ed, .int 0])), (b2, .inr (4, [.int 0, .ref ed, .int 0])), (b3, .inr (4, [.int 0, .ref ed, .int 0])), (b5, .inr (4, [.int 0, .ref ed, .int 0])), (ou, .inl (cO, 1, .inr (.inl (fun _ => 0)))), (od, .inl (cD, 1, .inr (.inr (.inr (.inl (fun _ => 0)))))), (x, .inr (11, [.ref a1, .ref a2, .ref a3, .ref a4, .ref tt, .int 0, .ref rr, .ref cq])), (a4, .inr (4, [.int 0, .ref ed, .int 0])), (b4, .inr (4, [.int 0, .ref ed, .int 0])), (mo, .inr (15, [.ref b1, .ref b2, .ref b3, .ref b4, .ref b5, .int 1]))] H := hP
  have hD : va_D (fun q : Nat => s.heap.size ≤ q) [(a1, .inr (4, [.int 0, .ref ed, .int 0])), (a2, .inr (4, [.int 0, .ref ed, .int 0])), (a3, .inr (4, [.int 0, .ref ed, .int 0])), (tt, .inl (cT, 24, .inl (fun _ => 0))), (rr, .inr (6, [.ref t1, .ref t2, .int 0, .int 0, .long 0, .long 0])), (b1, .inr (4, [.int 0, .ref ed, .int 0])), (b2, .inr (4, [.int 0, .ref ed, .int 0])), (b3, .inr (4, [.int 0, .ref ed, .int 0])), (b5, .inr (4, [.int 0, .ref ed, .int 0])), (ou, .inl (cO, 1, .inr (.inl (fun _ => 0)))), (od, .inl (cD, 1, .inr (.inr (.inr (.inl (fun _ => 0)))))), (x, .inr (11, [.ref a1, .ref a2, .ref a3, .ref a4, .ref tt, .int 0, .ref rr, .ref cq])), (a4, .inr (4, [.int 0, .ref ed, .int 0])), (b4, .inr (4, [.int 0, .ref ed, .int 0])), (mo, .inr (15, [.ref b1, .ref b2, .ref b3, .ref b4, .ref b5, .int 1]))] := hD
  have hK : va_K (dC, dI) vwCl [(cT, .int), (cO, .long), (cD, .double)] s := hK
  refine W.widen (k := 28) (n := 304) (Nat.le_of_ble_eq_true rfl) (Nat.le_of_ble_eq_true rfl) ?_
  have hw : r_587 = 1 := hw
  subst hw
  refine lv_iload hx hb dL_law_1577 (lv_at hl 1 rfl) ?_
  refine lv_icmp_eq (tgt := 1584) hx hb dL_law_1579 (by decide) (fun c_588 => ?_) (fun c_588 => absurd (by decide) c_588)
  refine lv_iload hx hb dL_law_1584 (lv_at hl 1 rfl) ?_
  refine lv_if_ne (tgt := 1601) hx hb dL_law_1586 (by decide) (fun c_589 => ?_) (fun c_589 => absurd c_589 (by decide))
  refine lv_goto (tgt := 3072) hx hb dL_law_1601 (by decide) ?_
  refine W.widen (k := 100) (n := 1000) (Nat.le_of_ble_eq_true rfl) (Nat.le_of_ble_eq_true rfl) ?_
  exact law_tail l C0 hS (lv_sub hl [2, 7] rfl)
set_option maxHeartbeats 4000000 in
set_option maxRecDepth 100000 in
theorem law_case_19 {p : Program} {e : Env} {s : State} {m : MethodId} {below : List Frame} {meth : Method} {c : Code} (l : Launch) (hl9 : l.stackTraces = false) (dC : Nat → ClassId) (dI : Nat → Nat → Nat) (ed : Nat) {b : Nat} {xs : Nat → Int32} (C0 : lw_At p s m meth c b 5 xs) (hZ : pz ed (fun q : Nat => s.heap.size ≤ q) s s.heap) (x a1 a2 a3 a4 tt rr cq t1 t2 mo b1 b2 b3 b4 b5 ou od : Nat) (cT cO cD : ClassId) {H : Heap} {locs : List Loc} (hK : va_K (dC, dI) vwCl [(cT, .int), (cO, .long), (cD, .double)] s) (hP : va_P (dC, dI) vwCl [(x, .inr (11, [.ref a1, .ref a2, .ref a3, .ref a4, .ref tt, .int 0, .ref rr, .ref cq])), (a1, .inr (4, [.int 0, .ref ed, .int 0])), (a2, .inr (4, [.int 0, .ref ed, .int 0])), (a3, .inr (4, [.int 0, .ref ed, .int 0])), (a4, .inr (4, [.int 0, .ref ed, .int 0])), (tt, .inl (cT, 24, .inl (fun _ => 0))), (rr, .inr (6, [.ref t1, .ref t2, .int 0, .int 0, .long 0, .long 0])), (mo, .inr (15, [.ref b1, .ref b2, .ref b3, .ref b4, .ref b5, .int 0])), (b1, .inr (4, [.int 0, .ref ed, .int 0])), (b2, .inr (4, [.int 0, .ref ed, .int 0])), (b3, .inr (4, [.int 0, .ref ed, .int 0])), (b4, .inr (4, [.int 0, .ref ed, .int 0])), (b5, .inr (4, [.int 0, .ref ed, .int 0])), (ou, .inl (cO, 1, .inr (.inl (fun _ => 0)))), (od, .inl (cD, 1, .inr (.inr (.inr (.inl (fun _ => 0))))))] H) (hD : va_D (fun q : Nat => s.heap.size ≤ q) [(x, .inr (11, [.ref a1, .ref a2, .ref a3, .ref a4, .ref tt, .int 0, .ref rr, .ref cq])), (a1, .inr (4, [.int 0, .ref ed, .int 0])), (a2, .inr (4, [.int 0, .ref ed, .int 0])), (a3, .inr (4, [.int 0, .ref ed, .int 0])), (a4, .inr (4, [.int 0, .ref ed, .int 0])), (tt, .inl (cT, 24, .inl (fun _ => 0))), (rr, .inr (6, [.ref t1, .ref t2, .int 0, .int 0, .long 0, .long 0])), (mo, .inr (15, [.ref b1, .ref b2, .ref b3, .ref b4, .ref b5, .int 0])), (b1, .inr (4, [.int 0, .ref ed, .int 0])), (b2, .inr (4, [.int 0, .ref ed, .int 0])), (b3, .inr (4, [.int 0, .ref ed, .int 0])), (b4, .inr (4, [.int 0, .ref ed, .int 0])), (b5, .inr (4, [.int 0, .ref ed, .int 0])), (ou, .inl (cO, 1, .inr (.inl (fun _ => 0)))), (od, .inl (cD, 1, .inr (.inr (.inr (.inl (fun _ => 0))))))]) (hS : va_S (fun q : Nat => s.heap.size ≤ q) s.heap H locs) {ls : Array Slot} (hl : lv_has ls 9 [(5, .int 0), (4, .ref od), (3, .ref ou), (2, .ref mo), (1, .ref x), (0, .ref b)]) : W p l e room_1 s m #[Value.ref b] below meth c H locs 27 298 (lw_Z below #[Value.ref b] s) (F0 m 1604 ls []) := by
  obtain ⟨hx, hb, hr, hml, hown, hts0, hX, hbl, hlocks, hgv⟩ := id C0
  have hts : ∀ w ∈ pw_all, w.before #[Value.ref b] s = true := fun w h => hts0 w (pw_tbl h)
  have hA : ∀ q : Nat, s.heap.size ≤ q → (fun q : Nat => s.heap.size ≤ q) q := fun _ h => h
  have hbA : ¬ (fun q : Nat => s.heap.size ≤ q) b := Nat.not_le.mpr hbl
  refine lv_aload_n hx hb dL_law_1604 rfl (lv_at hl 4 rfl) ?_
  refine lv_aload_n hx hb dL_law_1605 rfl (lv_at hl 5 rfl) ?_
  refine lv_iload hx hb dL_law_1606 (lv_at hl 0 rfl) ?_
  refine lv_iconst (v := 1) hx hb dL_law_1608 (by decide) ?_
  refine lv_iadd hx hb dL_law_1609 ?_
  refine lv_numI (v := 1) (by decide) ?_
  refine va_sld hx hb hX hbl hbA hS (by unfold vp_in; decide) dL_law_1610 ?_
  refine lv_aload_n hx hb dL_law_1611 rfl (lv_at hl 2 rfl) ?_
  have hPc := hP.sub (ws' := [(x, .inr (11, [.ref a1, .ref a2, .ref a3, .ref a4, .ref tt, .int 0, .ref rr, .ref cq])), (a4, .inr (4, [.int 0, .ref ed, .int 0]))]) [0, 4] rfl
  have hDc := hD.sub (ws' := [(x, .inr (11, [.ref a1, .ref a2, .ref a3, .ref a4, .ref tt, .int 0, .ref rr, .ref cq])), (a4, .inr (4, [.int 0, .ref ed, .int 0]))]) [0, 4] (by decide) rfl
  have hKc := hK.sub (tys' := []) [] rfl
  have hFc := va_free (wc := [(x, .inr (11, [.ref a1, .ref a2, .ref a3, .ref a4, .ref tt, .int 0, .ref rr, .ref cq])), (a4, .inr (4, [.int 0, .ref ed, .int 0]))]) hD hS hA [0, 4] rfl
  refine va_calli (vx_runSW (As := [.ref x, .int (xs (Int32.toNatClampNeg 1)), .ref ou]) (rest := []) ⟨hx, hb, hml, hown, hts⟩ (w_getState l hl9 dC dI H.size ed x a4 (.ref a1) (.ref a2) (.ref a3) (.ref tt) (.int 0) (.ref rr) (.ref cq) (.int 0) (.ref ed) (xs (Int32.toNatClampNeg 1)) ou) (vx_cwSW 3 hts (pw_S q979 q980 q42 q981) rfl rfl rfl (by decide +kernel) ⟨(Nat.le_of_ble_eq_true rfl), (Nat.le_of_ble_eq_true rfl)⟩) ⟨fun a U g mk q => by obtain ⟨q0, q1, qP, qK, qD, qZ⟩ := q; exact ⟨q0, q1, qP, va_K.moved (u := U) (U := U.calling g mk a) (Vm.Alike.refl U.vm) qK, qD, qZ.same rfl⟩, fun U hU hW => ⟨rfl, by rw [hU], by rw [hU]; exact hPc, va_K.moved hW.alike hKc, hDc.weaken (fun _ _ _ _ => trivial), hZ.call hS hFc hU hW⟩⟩ rfl rfl hl.1 rfl (lv_room (Nat.le_of_ble_eq_true rfl)) dL_law_1612 ⟨(Nat.le_of_ble_eq_true rfl), (Nat.le_of_ble_eq_true rfl)⟩) hS (fun q _ h => hFc q h) hFc (fun r_590 u t H1 locs ht hvm hw hB hz1 hk1 hS => ?_)
  obtain ⟨hP1, hK1, hD1⟩ := hB
  rw [ht] at hP1
  have hK1 := va_K.moved hvm.symm hK1
  obtain ⟨hP, hD⟩ := va_join (wr := [(a1, .inr (4, [.int 0, .ref ed, .int 0])), (a2, .inr (4, [.int 0, .ref ed, .int 0])), (a3, .inr (4, [.int 0, .ref ed, .int 0])), (tt, .inl (cT, 24, .inl (fun _ => 0))), (rr, .inr (6, [.ref t1, .ref t2, .int 0, .int 0, .long 0, .long 0])), (mo, .inr (15, [.ref b1, .ref b2, .ref b3, .ref b4, .ref b5, .int 0])), (b1, .inr (4, [.int 0, .ref ed, .int 0])), (b2, .inr (4, [.int 0, .ref ed, .int 0])), (b3, .inr (4, [.int 0, .ref ed, .int 0])), (b4, .inr (4, [.int 0, .ref ed, .int 0])), (b5, .inr (4, [.int 0, .ref ed, .int 0])), (ou, .inl (cO, 1, .inr (.inl (fun _ => 0)))), (od, .inl (cD, 1, .inr (.inr (.inr (.inl (fun _ => 0))))))]) (w1 := [(x, .inr (11, [.ref a1, .ref a2, .ref a3, .ref a4, .ref tt, .int 0, .ref rr, .ref cq])), (a4, .inr (4, [.int 0, .ref ed, .int 0]))]) hP hD [0, 4] [1, 2, 3, 5, 6, 7, 8, 9, 10, 11, 12, 13, 14] rfl rfl (by decide) (by decide) hk1 hFc hP1 hD1
  have hK := (hK.sub (tys' := [(cT, .int), (cO, .long), (cD, .double)]) [0, 1, 2] rfl).app hK1
  generalize H1 = H at hP hS ⊢
  have hP : va_P (dC, dI) vwCl [(a1, .inr (4, [.int 0, .ref ed, .int 0])), (a2, .inr (4, [.int 0, .ref ed, .int 0])), (a3, .inr (4, [.int 0, .ref ed, .int 0])), (tt, .inl (cT, 24, .inl (fun _ => 0))), (rr, .inr (6, [.ref t1, .ref t2, .int 0, .int 0, .long 0, .long 0])), (mo, .inr (15, [.ref b1, .ref b2, .ref b3, .ref b4, .ref b5, .int 0])), (b1, .inr (4, [.int 0, .ref ed, .int 0])), (b2, .inr (4, [.int 0, .ref ed, .int 0])), (b3, .inr (4, [.int 0, .ref ed, .int 0])), (b4, .inr (4, [.int 0, .ref ed, .int 0])), (b5, .inr (4, [.int 0, .ref ed, .int 0])), (ou, .inl (cO, 1, .inr (.inl (fun _ => 0)))), (od, .inl (cD, 1, .inr (.inr (.inr (.inl (fun _ => 0)))))), (x, .inr (11, [.ref a1, .ref a2, .ref a3, .ref a4, .ref tt, .int 0, .ref rr, .ref cq])), (a4, .inr (4, [.int 0, .ref ed, .int 0]))] H := hP
  have hD : va_D (fun q : Nat => s.heap.size ≤ q) [(a1, .inr (4, [.int 0, .ref ed, .int 0])), (a2, .inr (4, [.int 0, .ref ed, .int 0])), (a3, .inr (4, [.int 0, .ref ed, .int 0])), (tt, .inl (cT, 24, .inl (fun _ => 0))), (rr, .inr (6, [.ref t1, .ref t2, .int 0, .int 0, .long 0, .long 0])), (mo, .inr (15, [.ref b1, .ref b2, .ref b3, .ref b4, .ref b5, .int 0])), (b1, .inr (4, [.int 0, .ref ed, .int 0])), (b2, .inr (4, [.int 0, .ref ed, .int 0])), (b3, .inr (4, [.int 0, .ref ed, .int 0])), (b4, .inr (4, [.int 0, .ref ed, .int 0])), (b5, .inr (4, [.int 0, .ref ed, .int 0])), (ou, .inl (cO, 1, .inr (.inl (fun _ => 0)))), (od, .inl (cD, 1, .inr (.inr (.inr (.inl (fun _ => 0)))))), (x, .inr (11, [.ref a1, .ref a2, .ref a3, .ref a4, .ref tt, .int 0, .ref rr, .ref cq])), (a4, .inr (4, [.int 0, .ref ed, .int 0]))] := hD
  have hK : va_K (dC, dI) vwCl [(cT, .int), (cO, .long), (cD, .double)] s := hK
  refine W.widen (k := 28) (n := 304) (Nat.le_of_ble_eq_true rfl) (Nat.le_of_ble_eq_true rfl) ?_
  have hw : r_590 = 1 := hw
  subst hw
  refine lv_istore (lv' := [(6, .int 1), (5, .int 0), (4, .ref od), (3, .ref ou), (2, .ref mo), (1, .ref x), (0, .ref b)]) hx hb dL_law_1615 hl (by decide) rfl (fun ls hl => ?_)
  refine lv_aload_n hx hb dL_law_1617 rfl (lv_at hl 4 rfl) ?_
  refine lv_aload_n hx hb dL_law_1618 rfl (lv_at hl 6 rfl) ?_
  refine lv_iload hx hb dL_law_1619 (lv_at hl 1 rfl) ?_
  refine lv_iconst (v := 1) hx hb dL_law_1621 (by decide) ?_
  refine lv_iadd hx hb dL_law_1622 ?_
  refine lv_numI (v := 1) (by decide) ?_
  refine va_sld hx hb hX hbl hbA hS (by unfold vp_in; decide) dL_law_1623 ?_
  have hPc := hP.sub (ws' := [(mo, .inr (15, [.ref b1, .ref b2, .ref b3, .ref b4, .ref b5, .int 0])), (b4, .inr (4, [.int 0, .ref ed, .int 0]))]) [5, 9] rfl
  have hDc := hD.sub (ws' := [(mo, .inr (15, [.ref b1, .ref b2, .ref b3, .ref b4, .ref b5, .int 0])), (b4, .inr (4, [.int 0, .ref ed, .int 0]))]) [5, 9] (by decide) rfl
  have hKc := hK.sub (tys' := []) [] rfl
  have hFc := va_free (wc := [(mo, .inr (15, [.ref b1, .ref b2, .ref b3, .ref b4, .ref b5, .int 0])), (b4, .inr (4, [.int 0, .ref ed, .int 0]))]) hD hS hA [5, 9] rfl
  refine va_calli (va_runV (As := [.int (xs (Int32.toNatClampNeg 1))]) (rest := []) ⟨hx, hb, hml, hown, hts⟩ (y_getState l dC dI H.size mo b4 (.ref b1) (.ref b2) (.ref b3) (.ref b5) (.int 0) (.ref ed) 0 (xs (Int32.toNatClampNeg 1))) (cwV 1 hts (pw_V q1894 q1895 q1896 q49 q1897) rfl rfl rfl (by decide +kernel) ⟨(Nat.le_of_ble_eq_true rfl), (Nat.le_of_ble_eq_true rfl)⟩) ⟨fun a U g mk q => by obtain ⟨q0, q1, qP, qK, qD⟩ := q; exact ⟨q0, q1, qP, va_K.moved (u := U) (U := U.calling g mk a) (Vm.Alike.refl U.vm) qK, qD⟩, va_recv hKc hPc (ci := 15) (q0 := 0) rfl rfl, fun U hU hW => ⟨rfl, by rw [hU], by rw [hU]; exact hPc, va_K.moved hW.alike hKc, hDc.weaken (fun _ _ _ _ => trivial)⟩⟩ rfl rfl hl.1 rfl (lv_room (Nat.le_of_ble_eq_true rfl)) dL_law_1624 ⟨(Nat.le_of_ble_eq_true rfl), (Nat.le_of_ble_eq_true rfl)⟩) hS (fun q _ h => hFc q h) hFc (fun r_591 u t H1 locs ht hvm hw hB hz1 hk1 hS => ?_)
  obtain ⟨hP1, hK1, hD1⟩ := hB
  rw [ht] at hP1
  have hK1 := va_K.moved hvm.symm hK1
  obtain ⟨hP, hD⟩ := va_join (wr := [(a1, .inr (4, [.int 0, .ref ed, .int 0])), (a2, .inr (4, [.int 0, .ref ed, .int 0])), (a3, .inr (4, [.int 0, .ref ed, .int 0])), (tt, .inl (cT, 24, .inl (fun _ => 0))), (rr, .inr (6, [.ref t1, .ref t2, .int 0, .int 0, .long 0, .long 0])), (b1, .inr (4, [.int 0, .ref ed, .int 0])), (b2, .inr (4, [.int 0, .ref ed, .int 0])), (b3, .inr (4, [.int 0, .ref ed, .int 0])), (b5, .inr (4, [.int 0, .ref ed, .int 0])), (ou, .inl (cO, 1, .inr (.inl (fun _ => 0)))), (od, .inl (cD, 1, .inr (.inr (.inr (.inl (fun _ => 0)))))), (x, .inr (11, [.ref a1, .ref a2, .ref a3, .ref a4, .ref tt, .int 0, .ref rr, .ref cq])), (a4, .inr (4, [.int 0, .ref ed, .int 0]))]) (w1 := [(mo, .inr (15, [.ref b1, .ref b2, .ref b3, .ref b4, .ref b5, .int 1])), (b4, .inr (4, [.int 0, .ref ed, .int 0]))]) hP hD [5, 9] [0, 1, 2, 3, 4, 6, 7, 8, 10, 11, 12, 13, 14] rfl rfl (by decide) (by decide) hk1 hFc hP1 hD1
  have hK := (hK.sub (tys' := [(cT, .int), (cO, .long), (cD, .double)]) [0, 1, 2] rfl).app hK1
  generalize H1 = H at hP hS ⊢
  have hP : va_P (dC, dI) vwCl [(a1, .inr (4, [.int 0, .ref ed, .int 0])), (a2, .inr (4, [.int 0, .ref ed, .int 0])), (a3, .inr (4, [.int 0, .ref ed, .int 0])), (tt, .inl (cT, 24, .inl (fun _ => 0))), (rr, .inr (6, [.ref t1, .ref t2, .int 0, .int 0, .long 0, .long 0])), (b1, .inr (4, [.int 0, .ref ed, .int 0])), (b2, .inr (4, [.int 0, .ref ed, .int 0])), (b3, .inr (4, [.int 0, .ref ed, .int 0])), (b5, .inr (4, [.int 0, .ref ed, .int 0])), (ou, .inl (cO, 1, .inr (.inl (fun _ => 0)))), (od, .inl (cD, 1, .inr (.inr (.inr (.inl (fun _ => 0)))))), (x, .inr (11, [.ref a1, .ref a2, .ref a3, .ref a4, .ref tt, .int 0, .ref rr, .ref cq])), (a4, .inr (4, [.int 0, .ref ed, .int 0])), (mo, .inr (15, [.ref b1, .ref b2, .ref b3, .ref b4, .ref b5, .int 1])), (b4, .inr (4, [.int 0, .ref ed, .int 0]))] H := hP
  have hD : va_D (fun q : Nat => s.heap.size ≤ q) [(a1, .inr (4, [.int 0, .ref ed, .int 0])), (a2, .inr (4, [.int 0, .ref ed, .int 0])), (a3, .inr (4, [.int 0, .ref ed, .int 0])), (tt, .inl (cT, 24, .inl (fun _ => 0))), (rr, .inr (6, [.ref t1, .ref t2, .int 0, .int 0, .long 0, .long 0])), (b1, .inr (4, [.int 0, .ref ed, .int 0])), (b2, .inr (4, [.int 0, .ref ed, .int 0])), (b3, .inr (4, [.int 0, .ref ed, .int 0])), (b5, .inr (4, [.int 0, .ref ed, .int 0])), (ou, .inl (cO, 1, .inr (.inl (fun _ => 0)))), (od, .inl (cD, 1, .inr (.inr (.inr (.inl (fun _ => 0)))))), (x, .inr (11, [.ref a1, .ref a2, .ref a3, .ref a4, .ref tt, .int 0, .ref rr, .ref cq])), (a4, .inr (4, [.int 0, .ref ed, .int 0])), (mo, .inr (15, [.ref b1, .ref b2, .ref b3, .ref b4, .ref b5, .int 1])), (b4, .inr (4, [.int 0, .ref ed, .int 0]))] := hD
  have hK : va_K (dC, dI) vwCl [(cT, .int), (cO, .long), (cD, .double)] s := hK
  refine W.widen (k := 28) (n := 304) (Nat.le_of_ble_eq_true rfl) (Nat.le_of_ble_eq_true rfl) ?_
  have hw : r_591 = 32 := hw
  subst hw
  refine lv_istore (lv' := [(7, .int 32), (6, .int 1), (5, .int 0), (4, .ref od), (3, .ref ou), (2, .ref mo), (1, .ref x), (0, .ref b)]) hx hb dL_law_1627 hl (by decide) rfl (fun ls hl => ?_)
  refine lv_aload_n hx hb dL_law_1629 rfl (lv_at hl 5 rfl) ?_
  have hPc := hP.sub (ws' := [(mo, .inr (15, [.ref b1, .ref b2, .ref b3, .ref b4, .ref b5, .int 1]))]) [13] rfl
  have hDc := hD.sub (ws' := [(mo, .inr (15, [.ref b1, .ref b2, .ref b3, .ref b4, .ref b5, .int 1]))]) [13] (by decide) rfl
  have hKc := hK.sub (tys' := []) [] rfl
  have hFc := va_free (wc := [(mo, .inr (15, [.ref b1, .ref b2, .ref b3, .ref b4, .ref b5, .int 1]))]) hD hS hA [13] rfl
  refine va_calli (va_runV (As := []) (rest := []) ⟨hx, hb, hml, hown, hts⟩ (n_thrown l dC dI H.size mo (.ref b1) (.ref b2) (.ref b3) (.ref b4) (.ref b5) 1) (cwV 0 hts (pw_V q1244 q1245 q1246 q49 q1247) rfl rfl rfl (by decide +kernel) ⟨(Nat.le_of_ble_eq_true rfl), (Nat.le_of_ble_eq_true rfl)⟩) ⟨fun a U g mk q => by obtain ⟨q0, q1, qP, qK, qD⟩ := q; exact ⟨q0, q1, qP, va_K.moved (u := U) (U := U.calling g mk a) (Vm.Alike.refl U.vm) qK, qD⟩, va_recv hKc hPc (ci := 15) (q0 := 0) rfl rfl, fun U hU hW => ⟨rfl, by rw [hU], by rw [hU]; exact hPc, va_K.moved hW.alike hKc, hDc.weaken (fun _ _ _ _ => trivial)⟩⟩ rfl rfl hl.1 rfl (lv_room (Nat.le_of_ble_eq_true rfl)) dL_law_1630 ⟨(Nat.le_of_ble_eq_true rfl), (Nat.le_of_ble_eq_true rfl)⟩) hS (fun q _ h => hFc q h) hFc (fun r_592 u t H1 locs ht hvm hw hB hz1 hk1 hS => ?_)
  obtain ⟨hP1, hK1, hD1⟩ := hB
  rw [ht] at hP1
  have hK1 := va_K.moved hvm.symm hK1
  obtain ⟨hP, hD⟩ := va_join (wr := [(a1, .inr (4, [.int 0, .ref ed, .int 0])), (a2, .inr (4, [.int 0, .ref ed, .int 0])), (a3, .inr (4, [.int 0, .ref ed, .int 0])), (tt, .inl (cT, 24, .inl (fun _ => 0))), (rr, .inr (6, [.ref t1, .ref t2, .int 0, .int 0, .long 0, .long 0])), (b1, .inr (4, [.int 0, .ref ed, .int 0])), (b2, .inr (4, [.int 0, .ref ed, .int 0])), (b3, .inr (4, [.int 0, .ref ed, .int 0])), (b5, .inr (4, [.int 0, .ref ed, .int 0])), (ou, .inl (cO, 1, .inr (.inl (fun _ => 0)))), (od, .inl (cD, 1, .inr (.inr (.inr (.inl (fun _ => 0)))))), (x, .inr (11, [.ref a1, .ref a2, .ref a3, .ref a4, .ref tt, .int 0, .ref rr, .ref cq])), (a4, .inr (4, [.int 0, .ref ed, .int 0])), (b4, .inr (4, [.int 0, .ref ed, .int 0]))]) (w1 := [(mo, .inr (15, [.ref b1, .ref b2, .ref b3, .ref b4, .ref b5, .int 1]))]) hP hD [13] [0, 1, 2, 3, 4, 5, 6, 7, 8, 9, 10, 11, 12, 14] rfl rfl (by decide) (by decide) hk1 hFc hP1 hD1
  have hK := (hK.sub (tys' := [(cT, .int), (cO, .long), (cD, .double)]) [0, 1, 2] rfl).app hK1
  generalize H1 = H at hP hS ⊢
  have hP : va_P (dC, dI) vwCl [(a1, .inr (4, [.int 0, .ref ed, .int 0])), (a2, .inr (4, [.int 0, .ref ed, .int 0])), (a3, .inr (4, [.int 0, .ref ed, .int 0])), (tt, .inl (cT, 24, .inl (fun _ => 0))), (rr, .inr (6, [.ref t1, .ref t2, .int 0, .int 0, .long 0, .long 0])), (b1, .inr (4, [.int 0, .ref ed, .int 0])), (b2, .inr (4, [.int 0, .ref ed, .int 0])), (b3, .inr (4, [.int 0, .ref ed, .int 0])), (b5, .inr (4, [.int 0, .ref ed, .int 0])), (ou, .inl (cO, 1, .inr (.inl (fun _ => 0)))), (od, .inl (cD, 1, .inr (.inr (.inr (.inl (fun _ => 0)))))), (x, .inr (11, [.ref a1, .ref a2, .ref a3, .ref a4, .ref tt, .int 0, .ref rr, .ref cq])), (a4, .inr (4, [.int 0, .ref ed, .int 0])), (b4, .inr (4, [.int 0, .ref ed, .int 0])), (mo, .inr (15, [.ref b1, .ref b2, .ref b3, .ref b4, .ref b5, .int 1]))] H := hP
  have hD : va_D (fun q : Nat => s.heap.size ≤ q) [(a1, .inr (4, [.int 0, .ref ed, .int 0])), (a2, .inr (4, [.int 0, .ref ed, .int 0])), (a3, .inr (4, [.int 0, .ref ed, .int 0])), (tt, .inl (cT, 24, .inl (fun _ => 0))), (rr, .inr (6, [.ref t1, .ref t2, .int 0, .int 0, .long 0, .long 0])), (b1, .inr (4, [.int 0, .ref ed, .int 0])), (b2, .inr (4, [.int 0, .ref ed, .int 0])), (b3, .inr (4, [.int 0, .ref ed, .int 0])), (b5, .inr (4, [.int 0, .ref ed, .int 0])), (ou, .inl (cO, 1, .inr (.inl (fun _ => 0)))), (od, .inl (cD, 1, .inr (.inr (.inr (.inl (fun _ => 0)))))), (x, .inr (11, [.ref a1, .ref a2, .ref a3, .ref a4, .ref tt, .int 0, .ref rr, .ref cq])), (a4, .inr (4, [.int 0, .ref ed, .int 0])), (b4, .inr (4, [.int 0, .ref ed, .int 0])), (mo, .inr (15, [.ref b1, .ref b2, .ref b3, .ref b4, .ref b5, .int 1]))] := hD
  have hK : va_K (dC, dI) vwCl [(cT, .int), (cO, .long), (cD, .double)] s := hK
  refine W.widen (k := 28) (n := 304) (Nat.le_of_ble_eq_true rfl) (Nat.le_of_ble_eq_true rfl) ?_
  have hw : r_592 = 1 := hw
  subst hw
  refine lv_iload hx hb dL_law_1633 (lv_at hl 1 rfl) ?_
  refine lv_icmp_eq (tgt := 1640) hx hb dL_law_1635 (by decide) (fun c_593 => ?_) (fun c_593 => absurd (by decide) c_593)
  refine lv_iload hx hb dL_law_1640 (lv_at hl 1 rfl) ?_
  refine lv_if_ne (tgt := 1657) hx hb dL_law_1642 (by decide) (fun c_594 => ?_) (fun c_594 => absurd c_594 (by decide))
  refine lv_goto (tgt := 3072) hx hb dL_law_1657 (by decide) ?_
  refine W.widen (k := 100) (n := 1000) (Nat.le_of_ble_eq_true rfl) (Nat.le_of_ble_eq_true rfl) ?_
  exact law_tail l C0 hS (lv_sub hl [2, 7] rfl)
set_option maxHeartbeats 4000000 in
set_option maxRecDepth 100000 in
theorem law_case_20 {p : Program} {e : Env} {s : State} {m : MethodId} {below : List Frame} {meth : Method} {c : Code} (l : Launch) (hl9 : l.stackTraces = false) (dC : Nat → ClassId) (dI : Nat → Nat → Nat) (ed : Nat) {b : Nat} {xs : Nat → Int32} (C0 : lw_At p s m meth c b 5 xs) (hZ : pz ed (fun q : Nat => s.heap.size ≤ q) s s.heap) (x a1 a2 a3 a4 tt rr cq t1 t2 mo b1 b2 b3 b4 b5 ou od : Nat) (cT cO cD : ClassId) {H : Heap} {locs : List Loc} (hK : va_K (dC, dI) vwCl [(cT, .int), (cO, .long), (cD, .double)] s) (hP : va_P (dC, dI) vwCl [(x, .inr (11, [.ref a1, .ref a2, .ref a3, .ref a4, .ref tt, .int 0, .ref rr, .ref cq])), (a1, .inr (4, [.int 0, .ref ed, .int 0])), (a2, .inr (4, [.int 0, .ref ed, .int 0])), (a3, .inr (4, [.int 0, .ref ed, .int 0])), (a4, .inr (4, [.int 0, .ref ed, .int 0])), (tt, .inl (cT, 24, .inl (fun _ => 0))), (rr, .inr (6, [.ref t1, .ref t2, .int 0, .int 0, .long 0, .long 0])), (mo, .inr (15, [.ref b1, .ref b2, .ref b3, .ref b4, .ref b5, .int 0])), (b1, .inr (4, [.int 0, .ref ed, .int 0])), (b2, .inr (4, [.int 0, .ref ed, .int 0])), (b3, .inr (4, [.int 0, .ref ed, .int 0])), (b4, .inr (4, [.int 0, .ref ed, .int 0])), (b5, .inr (4, [.int 0, .ref ed, .int 0])), (ou, .inl (cO, 1, .inr (.inl (fun _ => 0)))), (od, .inl (cD, 1, .inr (.inr (.inr (.inl (fun _ => 0))))))] H) (hD : va_D (fun q : Nat => s.heap.size ≤ q) [(x, .inr (11, [.ref a1, .ref a2, .ref a3, .ref a4, .ref tt, .int 0, .ref rr, .ref cq])), (a1, .inr (4, [.int 0, .ref ed, .int 0])), (a2, .inr (4, [.int 0, .ref ed, .int 0])), (a3, .inr (4, [.int 0, .ref ed, .int 0])), (a4, .inr (4, [.int 0, .ref ed, .int 0])), (tt, .inl (cT, 24, .inl (fun _ => 0))), (rr, .inr (6, [.ref t1, .ref t2, .int 0, .int 0, .long 0, .long 0])), (mo, .inr (15, [.ref b1, .ref b2, .ref b3, .ref b4, .ref b5, .int 0])), (b1, .inr (4, [.int 0, .ref ed, .int 0])), (b2, .inr (4, [.int 0, .ref ed, .int 0])), (b3, .inr (4, [.int 0, .ref ed, .int 0])), (b4, .inr (4, [.int 0, .ref ed, .int 0])), (b5, .inr (4, [.int 0, .ref ed, .int 0])), (ou, .inl (cO, 1, .inr (.inl (fun _ => 0)))), (od, .inl (cD, 1, .inr (.inr (.inr (.inl (fun _ => 0))))))]) (hS : va_S (fun q : Nat => s.heap.size ≤ q) s.heap H locs) {ls : Array Slot} (hl : lv_has ls 9 [(5, .int 0), (4, .ref od), (3, .ref ou), (2, .ref mo), (1, .ref x), (0, .ref b)]) : W p l e room_1 s m #[Value.ref b] below meth c H locs 27 298 (lw_Z below #[Value.ref b] s) (F0 m 1660 ls []) := by
  obtain ⟨hx, hb, hr, hml, hown, hts0, hX, hbl, hlocks, hgv⟩ := id C0
  have hts : ∀ w ∈ pw_all, w.before #[Value.ref b] s = true := fun w h => hts0 w (pw_tbl h)
  have hA : ∀ q : Nat, s.heap.size ≤ q → (fun q : Nat => s.heap.size ≤ q) q := fun _ h => h
  have hbA : ¬ (fun q : Nat => s.heap.size ≤ q) b := Nat.not_le.mpr hbl
  refine lv_aload_n hx hb dL_law_1660 rfl (lv_at hl 4 rfl) ?_
  refine lv_aload_n hx hb dL_law_1661 rfl (lv_at hl 5 rfl) ?_
  refine lv_iload hx hb dL_law_1662 (lv_at hl 0 rfl) ?_
  refine lv_iconst (v := 1) hx hb dL_law_1664 (by decide) ?_
  refine lv_iadd hx hb dL_law_1665 ?_
  refine lv_numI (v := 1) (by decide) ?_
  refine va_sld hx hb hX hbl hbA hS (by unfold vp_in; decide) dL_law_1666 ?_
  refine lv_aload_n hx hb dL_law_1667 rfl (lv_at hl 2 rfl) ?_
  have hPc := hP.sub (ws' := [(x, .inr (11, [.ref a1, .ref a2, .ref a3, .ref a4, .ref tt, .int 0, .ref rr, .ref cq])), (a4, .inr (4, [.int 0, .ref ed, .int 0]))]) [0, 4] rfl
  have hDc := hD.sub (ws' := [(x, .inr (11, [.ref a1, .ref a2, .ref a3, .ref a4, .ref tt, .int 0, .ref rr, .ref cq])), (a4, .inr (4, [.int 0, .ref ed, .int 0]))]) [0, 4] (by decide) rfl
  have hKc := hK.sub (tys' := []) [] rfl
  have hFc := va_free (wc := [(x, .inr (11, [.ref a1, .ref a2, .ref a3, .ref a4, .ref tt, .int 0, .ref rr, .ref cq])), (a4, .inr (4, [.int 0, .ref ed, .int 0]))]) hD hS hA [0, 4] rfl
  refine va_calli (vx_runSW (As := [.ref x, .int (xs (Int32.toNatClampNeg 1)), .ref ou]) (rest := []) ⟨hx, hb, hml, hown, hts⟩ (w_raise l hl9 dC dI H.size ed x a4 (.ref a1) (.ref a2) (.ref a3) (.ref tt) (.int 0) (.ref rr) (.ref cq) (.int 0) (.ref ed) (xs (Int32.toNatClampNeg 1)) ou) (vx_cwSW 3 hts (pw_S q986 q987 q42 q988) rfl rfl rfl (by decide +kernel) ⟨(Nat.le_of_ble_eq_true rfl), (Nat.le_of_ble_eq_true rfl)⟩) ⟨fun a U g mk q => by obtain ⟨q0, q1, qP, qK, qD, qZ⟩ := q; exact ⟨q0, q1, qP, va_K.moved (u := U) (U := U.calling g mk a) (Vm.Alike.refl U.vm) qK, qD, qZ.same rfl⟩, fun U hU hW => ⟨rfl, by rw [hU], by rw [hU]; exact hPc, va_K.moved hW.alike hKc, hDc.weaken (fun _ _ _ _ => trivial), hZ.call hS hFc hU hW⟩⟩ rfl rfl hl.1 rfl (lv_room (Nat.le_of_ble_eq_true rfl)) dL_law_1668 ⟨(Nat.le_of_ble_eq_true rfl), (Nat.le_of_ble_eq_true rfl)⟩) hS (fun q _ h => hFc q h) hFc (fun r_595 u t H1 locs ht hvm hw hB hz1 hk1 hS => ?_)
  obtain ⟨hP1, hK1, hD1⟩ := hB
  rw [ht] at hP1
  have hK1 := va_K.moved hvm.symm hK1
  obtain ⟨hP, hD⟩ := va_join (wr := [(a1, .inr (4, [.int 0, .ref ed, .int 0])), (a2, .inr (4, [.int 0, .ref ed, .int 0])), (a3, .inr (4, [.int 0, .ref ed, .int 0])), (tt, .inl (cT, 24, .inl (fun _ => 0))), (rr, .inr (6, [.ref t1, .ref t2, .int 0, .int 0, .long 0, .long 0])), (mo, .inr (15, [.ref b1, .ref b2, .ref b3, .ref b4, .ref b5, .int 0])), (b1, .inr (4, [.int 0, .ref ed, .int 0])), (b2, .inr (4, [.int 0, .ref ed, .int 0])), (b3, .inr (4, [.int 0, .ref ed, .int 0])), (b4, .inr (4, [.int 0, .ref ed, .int 0])), (b5, .inr (4, [.int 0, .ref ed, .int 0])), (ou, .inl (cO, 1, .inr (.inl (fun _ => 0)))), (od, .inl (cD, 1, .inr (.inr (.inr (.inl (fun _ => 0))))))]) (w1 := [(x, .inr (11, [.ref a1, .ref a2, .ref a3, .ref a4, .ref tt, .int 0, .ref rr, .ref cq])), (a4, .inr (4, [.int 0, .ref ed, .int 0]))]) hP hD [0, 4] [1, 2, 3, 5, 6, 7, 8, 9, 10, 11, 12, 13, 14] rfl rfl (by decide) (by decide) hk1 hFc hP1 hD1
  have hK := (hK.sub (tys' := [(cT, .int), (cO, .long), (cD, .double)]) [0, 1, 2] rfl).app hK1
  generalize H1 = H at hP hS ⊢
  have hP : va_P (dC, dI) vwCl [(a1, .inr (4, [.int 0, .ref ed, .int 0])), (a2, .inr (4, [.int 0, .ref ed, .int 0])), (a3, .inr (4, [.int 0, .ref ed, .int 0])), (tt, .inl (cT, 24, .inl (fun _ => 0))), (rr, .inr (6, [.ref t1, .ref t2, .int 0, .int 0, .long 0, .long 0])), (mo, .inr (15, [.ref b1, .ref b2, .ref b3, .ref b4, .ref b5, .int 0])), (b1, .inr (4, [.int 0, .ref ed, .int 0])), (b2, .inr (4, [.int 0, .ref ed, .int 0])), (b3, .inr (4, [.int 0, .ref ed, .int 0])), (b4, .inr (4, [.int 0, .ref ed, .int 0])), (b5, .inr (4, [.int 0, .ref ed, .int 0])), (ou, .inl (cO, 1, .inr (.inl (fun _ => 0)))), (od, .inl (cD, 1, .inr (.inr (.inr (.inl (fun _ => 0)))))), (x, .inr (11, [.ref a1, .ref a2, .ref a3, .ref a4, .ref tt, .int 0, .ref rr, .ref cq])), (a4, .inr (4, [.int 0, .ref ed, .int 0]))] H := hP
  have hD : va_D (fun q : Nat => s.heap.size ≤ q) [(a1, .inr (4, [.int 0, .ref ed, .int 0])), (a2, .inr (4, [.int 0, .ref ed, .int 0])), (a3, .inr (4, [.int 0, .ref ed, .int 0])), (tt, .inl (cT, 24, .inl (fun _ => 0))), (rr, .inr (6, [.ref t1, .ref t2, .int 0, .int 0, .long 0, .long 0])), (mo, .inr (15, [.ref b1, .ref b2, .ref b3, .ref b4, .ref b5, .int 0])), (b1, .inr (4, [.int 0, .ref ed, .int 0])), (b2, .inr (4, [.int 0, .ref ed, .int 0])), (b3, .inr (4, [.int 0, .ref ed, .int 0])), (b4, .inr (4, [.int 0, .ref ed, .int 0])), (b5, .inr (4, [.int 0, .ref ed, .int 0])), (ou, .inl (cO, 1, .inr (.inl (fun _ => 0)))), (od, .inl (cD, 1, .inr (.inr (.inr (.inl (fun _ => 0)))))), (x, .inr (11, [.ref a1, .ref a2, .ref a3, .ref a4, .ref tt, .int 0, .ref rr, .ref cq])), (a4, .inr (4, [.int 0, .ref ed, .int 0]))] := hD
  have hK : va_K (dC, dI) vwCl [(cT, .int), (cO, .long), (cD, .double)] s := hK
  refine W.widen (k := 28) (n := 304) (Nat.le_of_ble_eq_true rfl) (Nat.le_of_ble_eq_true rfl) ?_
  have hw : r_595 = 1 := hw
  subst hw
  refine lv_istore (lv' := [(6, .int 1), (5, .int 0), (4, .ref od), (3, .ref ou), (2, .ref mo), (1, .ref x), (0, .ref b)]) hx hb dL_law_1671 hl (by decide) rfl (fun ls hl => ?_)
  refine lv_aload_n hx hb dL_law_1673 rfl (lv_at hl 4 rfl) ?_
  refine lv_aload_n hx hb dL_law_1674 rfl (lv_at hl 6 rfl) ?_
  refine lv_iload hx hb dL_law_1675 (lv_at hl 1 rfl) ?_
  refine lv_iconst (v := 1) hx hb dL_law_1677 (by decide) ?_
  refine lv_iadd hx hb dL_law_1678 ?_
  refine lv_numI (v := 1) (by decide) ?_
  refine va_sld hx hb hX hbl hbA hS (by unfold vp_in; decide) dL_law_1679 ?_
  have hPc := hP.sub (ws' := [(mo, .inr (15, [.ref b1, .ref b2, .ref b3, .ref b4, .ref b5, .int 0])), (b4, .inr (4, [.int 0, .ref ed, .int 0]))]) [5, 9] rfl
  have hDc := hD.sub (ws' := [(mo, .inr (15, [.ref b1, .ref b2, .ref b3, .ref b4, .ref b5, .int 0])), (b4, .inr (4, [.int 0, .ref ed, .int 0]))]) [5, 9] (by decide) rfl
  have hKc := hK.sub (tys' := []) [] rfl
  have hFc := va_free (wc := [(mo, .inr (15, [.ref b1, .ref b2, .ref b3, .ref b4, .ref b5, .int 0])), (b4, .inr (4, [.int 0, .ref ed, .int 0]))]) hD hS hA [5, 9] rfl
  refine va_calli (va_runV (As := [.int (xs (Int32.toNatClampNeg 1))]) (rest := []) ⟨hx, hb, hml, hown, hts⟩ (y_raise l dC dI H.size mo b4 (.ref b1) (.ref b2) (.ref b3) (.ref b5) (.int 0) (.ref ed) 0 (xs (Int32.toNatClampNeg 1))) (cwV 1 hts (pw_V q1898 q1899 q1900 q49 q1901) rfl rfl rfl (by decide +kernel) ⟨(Nat.le_of_ble_eq_true rfl), (Nat.le_of_ble_eq_true rfl)⟩) ⟨fun a U g mk q => by obtain ⟨q0, q1, qP, qK, qD⟩ := q; exact ⟨q0, q1, qP, va_K.moved (u := U) (U := U.calling g mk a) (Vm.Alike.refl U.vm) qK, qD⟩, va_recv hKc hPc (ci := 15) (q0 := 0) rfl rfl, fun U hU hW => ⟨rfl, by rw [hU], by rw [hU]; exact hPc, va_K.moved hW.alike hKc, hDc.weaken (fun _ _ _ _ => trivial)⟩⟩ rfl rfl hl.1 rfl (lv_room (Nat.le_of_ble_eq_true rfl)) dL_law_1680 ⟨(Nat.le_of_ble_eq_true rfl), (Nat.le_of_ble_eq_true rfl)⟩) hS (fun q _ h => hFc q h) hFc (fun r_596 u t H1 locs ht hvm hw hB hz1 hk1 hS => ?_)
  obtain ⟨hP1, hK1, hD1⟩ := hB
  rw [ht] at hP1
  have hK1 := va_K.moved hvm.symm hK1
  obtain ⟨hP, hD⟩ := va_join (wr := [(a1, .inr (4, [.int 0, .ref ed, .int 0])), (a2, .inr (4, [.int 0, .ref ed, .int 0])), (a3, .inr (4, [.int 0, .ref ed, .int 0])), (tt, .inl (cT, 24, .inl (fun _ => 0))), (rr, .inr (6, [.ref t1, .ref t2, .int 0, .int 0, .long 0, .long 0])), (b1, .inr (4, [.int 0, .ref ed, .int 0])), (b2, .inr (4, [.int 0, .ref ed, .int 0])), (b3, .inr (4, [.int 0, .ref ed, .int 0])), (b5, .inr (4, [.int 0, .ref ed, .int 0])), (ou, .inl (cO, 1, .inr (.inl (fun _ => 0)))), (od, .inl (cD, 1, .inr (.inr (.inr (.inl (fun _ => 0)))))), (x, .inr (11, [.ref a1, .ref a2, .ref a3, .ref a4, .ref tt, .int 0, .ref rr, .ref cq])), (a4, .inr (4, [.int 0, .ref ed, .int 0]))]) (w1 := [(mo, .inr (15, [.ref b1, .ref b2, .ref b3, .ref b4, .ref b5, .int 1])), (b4, .inr (4, [.int 0, .ref ed, .int 0]))]) hP hD [5, 9] [0, 1, 2, 3, 4, 6, 7, 8, 10, 11, 12, 13, 14] rfl rfl (by decide) (by decide) hk1 hFc hP1 hD1
  have hK := (hK.sub (tys' := [(cT, .int), (cO, .long), (cD, .double)]) [0, 1, 2] rfl).app hK1
  generalize H1 = H at hP hS ⊢
  have hP : va_P (dC, dI) vwCl [(a1, .inr (4, [.int 0, .ref ed, .int 0])), (a2, .inr (4, [.int 0, .ref ed, .int 0])), (a3, .inr (4, [.int 0, .ref ed, .int 0])), (tt, .inl (cT, 24, .inl (fun _ => 0))), (rr, .inr (6, [.ref t1, .ref t2, .int 0, .int 0, .long 0, .long 0])), (b1, .inr (4, [.int 0, .ref ed, .int 0])), (b2, .inr (4, [.int 0, .ref ed, .int 0])), (b3, .inr (4, [.int 0, .ref ed, .int 0])), (b5, .inr (4, [.int 0, .ref ed, .int 0])), (ou, .inl (cO, 1, .inr (.inl (fun _ => 0)))), (od, .inl (cD, 1, .inr (.inr (.inr (.inl (fun _ => 0)))))), (x, .inr (11, [.ref a1, .ref a2, .ref a3, .ref a4, .ref tt, .int 0, .ref rr, .ref cq])), (a4, .inr (4, [.int 0, .ref ed, .int 0])), (mo, .inr (15, [.ref b1, .ref b2, .ref b3, .ref b4, .ref b5, .int 1])), (b4, .inr (4, [.int 0, .ref ed, .int 0]))] H := hP
  have hD : va_D (fun q : Nat => s.heap.size ≤ q) [(a1, .inr (4, [.int 0, .ref ed, .int 0])), (a2, .inr (4, [.int 0, .ref ed, .int 0])), (a3, .inr (4, [.int 0, .ref ed, .int 0])), (tt, .inl (cT, 24, .inl (fun _ => 0))), (rr, .inr (6, [.ref t1, .ref t2, .int 0, .int 0, .long 0, .long 0])), (b1, .inr (4, [.int 0, .ref ed, .int 0])), (b2, .inr (4, [.int 0, .ref ed, .int 0])), (b3, .inr (4, [.int 0, .ref ed, .int 0])), (b5, .inr (4, [.int 0, .ref ed, .int 0])), (ou, .inl (cO, 1, .inr (.inl (fun _ => 0)))), (od, .inl (cD, 1, .inr (.inr (.inr (.inl (fun _ => 0)))))), (x, .inr (11, [.ref a1, .ref a2, .ref a3, .ref a4, .ref tt, .int 0, .ref rr, .ref cq])), (a4, .inr (4, [.int 0, .ref ed, .int 0])), (mo, .inr (15, [.ref b1, .ref b2, .ref b3, .ref b4, .ref b5, .int 1])), (b4, .inr (4, [.int 0, .ref ed, .int 0]))] := hD
  have hK : va_K (dC, dI) vwCl [(cT, .int), (cO, .long), (cD, .double)] s := hK
  refine W.widen (k := 28) (n := 304) (Nat.le_of_ble_eq_true rfl) (Nat.le_of_ble_eq_true rfl) ?_
  have hw : r_596 = 0 := hw
  subst hw
  refine lv_istore (lv' := [(7, .int 0), (6, .int 1), (5, .int 0), (4, .ref od), (3, .ref ou), (2, .ref mo), (1, .ref x), (0, .ref b)]) hx hb dL_law_1683 hl (by decide) rfl (fun ls hl => ?_)
  refine lv_aload_n hx hb dL_law_1685 rfl (lv_at hl 5 rfl) ?_
  have hPc := hP.sub (ws' := [(mo, .inr (15, [.ref b1, .ref b2, .ref b3, .ref b4, .ref b5, .int 1]))]) [13] rfl
  have hDc := hD.sub (ws' := [(mo, .inr (15, [.ref b1, .ref b2, .ref b3, .ref b4, .ref b5, .int 1]))]) [13] (by decide) rfl
  have hKc := hK.sub (tys' := []) [] rfl
  have hFc := va_free (wc := [(mo, .inr (15, [.ref b1, .ref b2, .ref b3, .ref b4, .ref b5, .int 1]))]) hD hS hA [13] rfl
  refine va_calli (va_runV (As := []) (rest := []) ⟨hx, hb, hml, hown, hts⟩ (n_thrown l dC dI H.size mo (.ref b1) (.ref b2) (.ref b3) (.ref b4) (.ref b5) 1) (cwV 0 hts (pw_V q1244 q1245 q1246 q49 q1247) rfl rfl rfl (by decide +kernel) ⟨(Nat.le_of_ble_eq_true rfl), (Nat.le_of_ble_eq_true rfl)⟩) ⟨fun a U g mk q => by obtain ⟨q0, q1, qP, qK, qD⟩ := q; exact ⟨q0, q1, qP, va_K.moved (u := U) (U := U.calling g mk a) (Vm.Alike.refl U.vm) qK, qD⟩, va_recv hKc hPc (ci := 15) (q0 := 0) rfl rfl, fun U hU hW => ⟨rfl, by rw [hU], by rw [hU]; exact hPc, va_K.moved hW.alike hKc, hDc.weaken (fun _ _ _ _ => trivial)⟩⟩ rfl rfl hl.1 rfl (lv_room (Nat.le_of_ble_eq_true rfl)) dL_law_1686 ⟨(Nat.le_of_ble_eq_true rfl), (Nat.le_of_ble_eq_true rfl)⟩) hS (fun q _ h => hFc q h) hFc (fun r_597 u t H1 locs ht hvm hw hB hz1 hk1 hS => ?_)
  obtain ⟨hP1, hK1, hD1⟩ := hB
  rw [ht] at hP1
  have hK1 := va_K.moved hvm.symm hK1
  obtain ⟨hP, hD⟩ := va_join (wr := [(a1, .inr (4, [.int 0, .ref ed, .int 0])), (a2, .inr (4, [.int 0, .ref ed, .int 0])), (a3, .inr (4, [.int 0, .ref ed, .int 0])), (tt, .inl (cT, 24, .inl (fun _ => 0))), (rr, .inr (6, [.ref t1, .ref t2, .int 0, .int 0, .long 0, .long 0])), (b1, .inr (4, [.int 0, .ref ed, .int 0])), (b2, .inr (4, [.int 0, .ref ed, .int 0])), (b3, .inr (4, [.int 0, .ref ed, .int 0])), (b5, .inr (4, [.int 0, .ref ed, .int 0])), (ou, .inl (cO, 1, .inr (.inl (fun _ => 0)))), (od, .inl (cD, 1, .inr (.inr (.inr (.inl (fun _ => 0)))))), (x, .inr (11, [.ref a1, .ref a2, .ref a3, .ref a4, .ref tt, .int 0, .ref rr, .ref cq])), (a4, .inr (4, [.int 0, .ref ed, .int 0])), (b4, .inr (4, [.int 0, .ref ed, .int 0]))]) (w1 := [(mo, .inr (15, [.ref b1, .ref b2, .ref b3, .ref b4, .ref b5, .int 1]))]) hP hD [13] [0, 1, 2, 3, 4, 5, 6, 7, 8, 9, 10, 11, 12, 14] rfl rfl (by decide) (by decide) hk1 hFc hP1 hD1
  have hK := (hK.sub (tys' := [(cT, .int), (cO, .long), (cD, .double)]) [0, 1, 2] rfl).app hK1
  generalize H1 = H at hP hS ⊢
  have hP : va_P (dC, dI) vwCl [(a1, .inr (4, [.int 0, .ref ed, .int 0])), (a2, .inr (4, [.int 0, .ref ed, .int 0])), (a3, .inr (4, [.int 0, .ref ed, .int 0])), (tt, .inl (cT, 24, .inl (fun _ => 0))), (rr, .inr (6, [.ref t1, .ref t2, .int 0, .int 0, .long 0, .long 0])), (b1, .inr (4, [.int 0, .ref ed, .int 0])), (b2, .inr (4, [.int 0, .ref ed, .int 0])), (b3, .inr (4, [.int 0, .ref ed, .int 0])), (b5, .inr (4, [.int 0, .ref ed, .int 0])), (ou, .inl (cO, 1, .inr (.inl (fun _ => 0)))), (od, .inl (cD, 1, .inr (.inr (.inr (.inl (fun _ => 0)))))), (x, .inr (11, [.ref a1, .ref a2, .ref a3, .ref a4, .ref tt, .int 0, .ref rr, .ref cq])), (a4, .inr (4, [.int 0, .ref ed, .int 0])), (b4, .inr (4, [.int 0, .ref ed, .int 0])), (mo, .inr (15, [.ref b1, .ref b2, .ref b3, .ref b4, .ref b5, .int 1]))] H := hP
  have hD : va_D (fun q : Nat => s.heap.size ≤ q) [(a1, .inr (4, [.int 0, .ref ed, .int 0])), (a2, .inr (4, [.int 0, .ref ed, .int 0])), (a3, .inr (4, [.int 0, .ref ed, .int 0])), (tt, .inl (cT, 24, .inl (fun _ => 0))), (rr, .inr (6, [.ref t1, .ref t2, .int 0, .int 0, .long 0, .long 0])), (b1, .inr (4, [.int 0, .ref ed, .int 0])), (b2, .inr (4, [.int 0, .ref ed, .int 0])), (b3, .inr (4, [.int 0, .ref ed, .int 0])), (b5, .inr (4, [.int 0, .ref ed, .int 0])), (ou, .inl (cO, 1, .inr (.inl (fun _ => 0)))), (od, .inl (cD, 1, .inr (.inr (.inr (.inl (fun _ => 0)))))), (x, .inr (11, [.ref a1, .ref a2, .ref a3, .ref a4, .ref tt, .int 0, .ref rr, .ref cq])), (a4, .inr (4, [.int 0, .ref ed, .int 0])), (b4, .inr (4, [.int 0, .ref ed, .int 0])), (mo, .inr (15, [.ref b1, .ref b2, .ref b3, .ref b4, .ref b5, .int 1]))] := hD
  have hK : va_K (dC, dI) vwCl [(cT, .int), (cO, .long), (cD, .double)] s := hK
  refine W.widen (k := 28) (n := 304) (Nat.le_of_ble_eq_true rfl) (Nat.le_of_ble_eq_true rfl) ?_
  have hw : r_597 = 1 := hw
  subst hw
  refine lv_iload hx hb dL_law_1689 (lv_at hl 1 rfl) ?_
  refine lv_icmp_eq (tgt := 1696) hx hb dL_law_1691 (by decide) (fun c_598 => ?_) (fun c_598 => absurd (by decide) c_598)
  refine lv_iload hx hb dL_law_1696 (lv_at hl 1 rfl) ?_
  refine lv_if_ne (tgt := 1713) hx hb dL_law_1698 (by decide) (fun c_599 => ?_) (fun c_599 => absurd c_599 (by decide))
  refine lv_goto (tgt := 3072) hx hb dL_law_1713 (by decide) ?_
  refine W.widen (k := 100) (n := 1000) (Nat.le_of_ble_eq_true rfl) (Nat.le_of_ble_eq_true rfl) ?_
  exact law_tail l C0 hS (lv_sub hl [2, 7] rfl)
set_option maxHeartbeats 4000000 in
set_option maxRecDepth 100000 in
theorem law_case_21 {p : Program} {e : Env} {s : State} {m : MethodId} {below : List Frame} {meth : Method} {c : Code} (l : Launch) (hl9 : l.stackTraces = false) (dC : Nat → ClassId) (dI : Nat → Nat → Nat) (ed : Nat) {b : Nat} {xs : Nat → Int32} (C0 : lw_At p s m meth c b 5 xs) (hZ : pz ed (fun q : Nat => s.heap.size ≤ q) s s.heap) (x a1 a2 a3 a4 tt rr cq t1 t2 mo b1 b2 b3 b4 b5 ou od : Nat) (cT cO cD : ClassId) {H : Heap} {locs : List Loc} (hK : va_K (dC, dI) vwCl [(cT, .int), (cO, .long), (cD, .double)] s) (hP : va_P (dC, dI) vwCl [(x, .inr (11, [.ref a1, .ref a2, .ref a3, .ref a4, .ref tt, .int 0, .ref rr, .ref cq])), (a1, .inr (4, [.int 0, .ref ed, .int 0])), (a2, .inr (4, [.int 0, .ref ed, .int 0])), (a3, .inr (4, [.int 0, .ref ed, .int 0])), (a4, .inr (4, [.int 0, .ref ed, .int 0])), (tt, .inl (cT, 24, .inl (fun _ => 0))), (rr, .inr (6, [.ref t1, .ref t2, .int 0, .int 0, .long 0, .long 0])), (mo, .inr (15, [.ref b1, .ref b2, .ref b3, .ref b4, .ref b5, .int 0])), (b1, .inr (4, [.int 0, .ref ed, .int 0])), (b2, .inr (4, [.int 0, .ref ed, .int 0])), (b3, .inr (4, [.int 0, .ref ed, .int 0])), (b4, .inr (4, [.int 0, .ref ed, .int 0])), (b5, .inr (4, [.int 0, .ref ed, .int 0])), (ou, .inl (cO, 1, .inr (.inl (fun _ => 0)))), (od, .inl (cD, 1, .inr (.inr (.inr (.inl (fun _ => 0))))))] H) (hD : va_D (fun q : Nat => s.heap.size ≤ q) [(x, .inr (11, [.ref a1, .ref a2, .ref a3, .ref a4, .ref tt, .int 0, .ref rr, .ref cq])), (a1, .inr (4, [.int 0, .ref ed, .int 0])), (a2, .inr (4, [.int 0, .ref ed, .int 0])), (a3, .inr (4, [.int 0, .ref ed, .int 0])), (a4, .inr (4, [.int 0, .ref ed, .int 0])), (tt, .inl (cT, 24, .inl (fun _ => 0))), (rr, .inr (6, [.ref t1, .ref t2, .int 0, .int 0, .long 0, .long 0])), (mo, .inr (15, [.ref b1, .ref b2, .ref b3, .ref b4, .ref b5, .int 0])), (b1, .inr (4, [.int 0, .ref ed, .int 0])), (b2, .inr (4, [.int 0, .ref ed, .int 0])), (b3, .inr (4, [.int 0, .ref ed, .int 0])), (b4, .inr (4, [.int 0, .ref ed, .int 0])), (b5, .inr (4, [.int 0, .ref ed, .int 0])), (ou, .inl (cO, 1, .inr (.inl (fun _ => 0)))), (od, .inl (cD, 1, .inr (.inr (.inr (.inl (fun _ => 0))))))]) (hS : va_S (fun q : Nat => s.heap.size ≤ q) s.heap H locs) {ls : Array Slot} (hl : lv_has ls 9 [(5, .int 0), (4, .ref od), (3, .ref ou), (2, .ref mo), (1, .ref x), (0, .ref b)]) : W p l e room_1 s m #[Value.ref b] below meth c H locs 27 298 (lw_Z below #[Value.ref b] s) (F0 m 1716 ls []) := by
  obtain ⟨hx, hb, hr, hml, hown, hts0, hX, hbl, hlocks, hgv⟩ := id C0
  have hts : ∀ w ∈ pw_all, w.before #[Value.ref b] s = true := fun w h => hts0 w (pw_tbl h)
  have hA : ∀ q : Nat, s.heap.size ≤ q → (fun q : Nat => s.heap.size ≤ q) q := fun _ h => h
  have hbA : ¬ (fun q : Nat => s.heap.size ≤ q) b := Nat.not_le.mpr hbl
  refine lv_aload_n hx hb dL_law_1716 rfl (lv_at hl 4 rfl) ?_
  refine lv_aload_n hx hb dL_law_1717 rfl (lv_at hl 5 rfl) ?_
  refine lv_iload hx hb dL_law_1718 (lv_at hl 0 rfl) ?_
  refine lv_iconst (v := 1) hx hb dL_law_1720 (by decide) ?_
  refine lv_iadd hx hb dL_law_1721 ?_
  refine lv_numI (v := 1) (by decide) ?_
  refine va_sld hx hb hX hbl hbA hS (by unfold vp_in; decide) dL_law_1722 ?_
  refine lv_aload_n hx hb dL_law_1723 rfl (lv_at hl 2 rfl) ?_
  have hPc := hP.sub (ws' := [(x, .inr (11, [.ref a1, .ref a2, .ref a3, .ref a4, .ref tt, .int 0, .ref rr, .ref cq])), (a4, .inr (4, [.int 0, .ref ed, .int 0]))]) [0, 4] rfl
  have hDc := hD.sub (ws' := [(x, .inr (11, [.ref a1, .ref a2, .ref a3, .ref a4, .ref tt, .int 0, .ref rr, .ref cq])), (a4, .inr (4, [.int 0, .ref ed, .int 0]))]) [0, 4] (by decide) rfl
  have hKc := hK.sub (tys' := []) [] rfl
  have hFc := va_free (wc := [(x, .inr (11, [.ref a1, .ref a2, .ref a3, .ref a4, .ref tt, .int 0, .ref rr, .ref cq])), (a4, .inr (4, [.int 0, .ref ed, .int 0]))]) hD hS hA [0, 4] rfl
  refine va_calli (vx_runSW (As := [.ref x, .int (xs (Int32.toNatClampNeg 1)), .ref ou]) (rest := []) ⟨hx, hb, hml, hown, hts⟩ (w_takeUp l hl9 dC dI H.size ed x a4 (.ref a1) (.ref a2) (.ref a3) (.ref tt) (.int 0) (.ref rr) (.ref cq) (.int 0) (.ref ed) (xs (Int32.toNatClampNeg 1)) ou) (vx_cwSW 3 hts (pw_S q996 q997 q42 q998) rfl rfl rfl (by decide +kernel) ⟨(Nat.le_of_ble_eq_true rfl), (Nat.le_of_ble_eq_true rfl)⟩) ⟨fun a U g mk q => by obtain ⟨q0, q1, qP, qK, qD, qZ⟩ := q; exact ⟨q0, q1, qP, va_K.moved (u := U) (U := U.calling g mk a) (Vm.Alike.refl U.vm) qK, qD, qZ.same rfl⟩, fun U hU hW => ⟨rfl, by rw [hU], by rw [hU]; exact hPc, va_K.moved hW.alike hKc, hDc.weaken (fun _ _ _ _ => trivial), hZ.call hS hFc hU hW⟩⟩ rfl rfl hl.1 rfl (lv_room (Nat.le_of_ble_eq_true rfl)) dL_law_1724 ⟨(Nat.le_of_ble_eq_true rfl), (Nat.le_of_ble_eq_true rfl)⟩) hS (fun q _ h => hFc q h) hFc (fun r_600 u t H1 locs ht hvm hw hB hz1 hk1 hS => ?_)
  obtain ⟨hP1, hK1, hD1⟩ := hB
  rw [ht] at hP1
  have hK1 := va_K.moved hvm.symm hK1
  obtain ⟨hP, hD⟩ := va_join (wr := [(a1, .inr (4, [.int 0, .ref ed, .int 0])), (a2, .inr (4, [.int 0, .ref ed, .int 0])), (a3, .inr (4, [.int 0, .ref ed, .int 0])), (tt, .inl (cT, 24, .inl (fun _ => 0))), (rr, .inr (6, [.ref t1, .ref t2, .int 0, .int 0, .long 0, .long 0])), (mo, .inr (15, [.ref b1, .ref b2, .ref b3, .ref b4, .ref b5, .int 0])), (b1, .inr (4, [.int 0, .ref ed, .int 0])), (b2, .inr (4, [.int 0, .ref ed, .int 0])), (b3, .inr (4, [.int 0, .ref ed, .int 0])), (b4, .inr (4, [.int 0, .ref ed, .int 0])), (b5, .inr (4, [.int 0, .ref ed, .int 0])), (ou, .inl (cO, 1, .inr (.inl (fun _ => 0)))), (od, .inl (cD, 1, .inr (.inr (.inr (.inl (fun _ => 0))))))]) (w1 := [(x, .inr (11, [.ref a1, .ref a2, .ref a3, .ref a4, .ref tt, .int 0, .ref rr, .ref cq])), (a4, .inr (4, [.int 0, .ref ed, .int 0]))]) hP hD [0, 4] [1, 2, 3, 5, 6, 7, 8, 9, 10, 11, 12, 13, 14] rfl rfl (by decide) (by decide) hk1 hFc hP1 hD1
  have hK := (hK.sub (tys' := [(cT, .int), (cO, .long), (cD, .double)]) [0, 1, 2] rfl).app hK1
  generalize H1 = H at hP hS ⊢
  have hP : va_P (dC, dI) vwCl [(a1, .inr (4, [.int 0, .ref ed, .int 0])), (a2, .inr (4, [.int 0, .ref ed, .int 0])), (a3, .inr (4, [.int 0, .ref ed, .int 0])), (tt, .inl (cT, 24, .inl (fun _ => 0))), (rr, .inr (6, [.ref t1, .ref t2, .int 0, .int 0, .long 0, .long 0])), (mo, .inr (15, [.ref b1, .ref b2, .ref b3, .ref b4, .ref b5, .int 0])), (b1, .inr (4, [.int 0, .ref ed, .int 0])), (b2, .inr (4, [.int 0, .ref ed, .int 0])), (b3, .inr (4, [.int 0, .ref ed, .int 0])), (b4, .inr (4, [.int 0, .ref ed, .int 0])), (b5, .inr (4, [.int 0, .ref ed, .int 0])), (ou, .inl (cO, 1, .inr (.inl (fun _ => 0)))), (od, .inl (cD, 1, .inr (.inr (.inr (.inl (fun _ => 0)))))), (x, .inr (11, [.ref a1, .ref a2, .ref a3, .ref a4, .ref tt, .int 0, .ref rr, .ref cq])), (a4, .inr (4, [.int 0, .ref ed, .int 0]))] H := hP
  have hD : va_D (fun q : Nat => s.heap.size ≤ q) [(a1, .inr (4, [.int 0, .ref ed, .int 0])), (a2, .inr (4, [.int 0, .ref ed, .int 0])), (a3, .inr (4, [.int 0, .ref ed, .int 0])), (tt, .inl (cT, 24, .inl (fun _ => 0))), (rr, .inr (6, [.ref t1, .ref t2, .int 0, .int 0, .long 0, .long 0])), (mo, .inr (15, [.ref b1, .ref b2, .ref b3, .ref b4, .ref b5, .int 0])), (b1, .inr (4, [.int 0, .ref ed, .int 0])), (b2, .inr (4, [.int 0, .ref ed, .int 0])), (b3, .inr (4, [.int 0, .ref ed, .int 0])), (b4, .inr (4, [.int 0, .ref ed, .int 0])), (b5, .inr (4, [.int 0, .ref ed, .int 0])), (ou, .inl (cO, 1, .inr (.inl (fun _ => 0)))), (od, .inl (cD, 1, .inr (.inr (.inr (.inl (fun _ => 0)))))), (x, .inr (11, [.ref a1, .ref a2, .ref a3, .ref a4, .ref tt, .int 0, .ref rr, .ref cq])), (a4, .inr (4, [.int 0, .ref ed, .int 0]))] := hD
  have hK : va_K (dC, dI) vwCl [(cT, .int), (cO, .long), (cD, .double)] s := hK
  refine W.widen (k := 28) (n := 304) (Nat.le_of_ble_eq_true rfl) (Nat.le_of_ble_eq_true rfl) ?_
  have hw : r_600 = 1 := hw
  subst hw
  refine lv_istore (lv' := [(6, .int 1), (5, .int 0), (4, .ref od), (3, .ref ou), (2, .ref mo), (1, .ref x), (0, .ref b)]) hx hb dL_law_1727 hl (by decide) rfl (fun ls hl => ?_)
  refine lv_aload_n hx hb dL_law_1729 rfl (lv_at hl 4 rfl) ?_
  refine lv_aload_n hx hb dL_law_1730 rfl (lv_at hl 6 rfl) ?_
  refine lv_iload hx hb dL_law_1731 (lv_at hl 1 rfl) ?_
  refine lv_iconst (v := 1) hx hb dL_law_1733 (by decide) ?_
  refine lv_iadd hx hb dL_law_1734 ?_
  refine lv_numI (v := 1) (by decide) ?_
  refine va_sld hx hb hX hbl hbA hS (by unfold vp_in; decide) dL_law_1735 ?_
  have hPc := hP.sub (ws' := [(mo, .inr (15, [.ref b1, .ref b2, .ref b3, .ref b4, .ref b5, .int 0])), (b4, .inr (4, [.int 0, .ref ed, .int 0]))]) [5, 9] rfl
  have hDc := hD.sub (ws' := [(mo, .inr (15, [.ref b1, .ref b2, .ref b3, .ref b4, .ref b5, .int 0])), (b4, .inr (4, [.int 0, .ref ed, .int 0]))]) [5, 9] (by decide) rfl
  have hKc := hK.sub (tys' := []) [] rfl
  have hFc := va_free (wc := [(mo, .inr (15, [.ref b1, .ref b2, .ref b3, .ref b4, .ref b5, .int 0])), (b4, .inr (4, [.int 0, .ref ed, .int 0]))]) hD hS hA [5, 9] rfl
  refine va_calli (va_runV (As := [.int (xs (Int32.toNatClampNeg 1))]) (rest := []) ⟨hx, hb, hml, hown, hts⟩ (y_takeUp l dC dI H.size mo b4 (.ref b1) (.ref b2) (.ref b3) (.ref b5) (.int 0) (.ref ed) 0 (xs (Int32.toNatClampNeg 1))) (cwV 1 hts (pw_V q1902 q1903 q1904 q49 q1905) rfl rfl rfl (by decide +kernel) ⟨(Nat.le_of_ble_eq_true rfl), (Nat.le_of_ble_eq_true rfl)⟩) ⟨fun a U g mk q => by obtain ⟨q0, q1, qP, qK, qD⟩ := q; exact ⟨q0, q1, qP, va_K.moved (u := U) (U := U.calling g mk a) (Vm.Alike.refl U.vm) qK, qD⟩, va_recv hKc hPc (ci := 15) (q0 := 0) rfl rfl, fun U hU hW => ⟨rfl, by rw [hU], by rw [hU]; exact hPc, va_K.moved hW.alike hKc, hDc.weaken (fun _ _ _ _ => trivial)⟩⟩ rfl rfl hl.1 rfl (lv_room (Nat.le_of_ble_eq_true rfl)) dL_law_1736 ⟨(Nat.le_of_ble_eq_true rfl), (Nat.le_of_ble_eq_true rfl)⟩) hS (fun q _ h => hFc q h) hFc (fun r_601 u t H1 locs ht hvm hw hB hz1 hk1 hS => ?_)
  obtain ⟨hP1, hK1, hD1⟩ := hB
  rw [ht] at hP1
  have hK1 := va_K.moved hvm.symm hK1
  obtain ⟨hP, hD⟩ := va_join (wr := [(a1, .inr (4, [.int 0, .ref ed, .int 0])), (a2, .inr (4, [.int 0, .ref ed, .int 0])), (a3, .inr (4, [.int 0, .ref ed, .int 0])), (tt, .inl (cT, 24, .inl (fun _ => 0))), (rr, .inr (6, [.ref t1, .ref t2, .int 0, .int 0, .long 0, .long 0])), (b1, .inr (4, [.int 0, .ref ed, .int 0])), (b2, .inr (4, [.int 0, .ref ed, .int 0])), (b3, .inr (4, [.int 0, .ref ed, .int 0])), (b5, .inr (4, [.int 0, .ref ed, .int 0])), (ou, .inl (cO, 1, .inr (.inl (fun _ => 0)))), (od, .inl (cD, 1, .inr (.inr (.inr (.inl (fun _ => 0)))))), (x, .inr (11, [.ref a1, .ref a2, .ref a3, .ref a4, .ref tt, .int 0, .ref rr, .ref cq])), (a4, .inr (4, [.int 0, .ref ed, .int 0]))]) (w1 := [(mo, .inr (15, [.ref b1, .ref b2, .ref b3, .ref b4, .ref b5, .int 1])), (b4, .inr (4, [.int 0, .ref ed, .int 0]))]) hP hD [5, 9] [0, 1, 2, 3, 4, 6, 7, 8, 10, 11, 12, 13, 14] rfl rfl (by decide) (by decide) hk1 hFc hP1 hD1
  have hK := (hK.sub (tys' := [(cT, .int), (cO, .long), (cD, .double)]) [0, 1, 2] rfl).app hK1
  generalize H1 = H at hP hS ⊢
  have hP : va_P (dC, dI) vwCl [(a1, .inr (4, [.int 0, .ref ed, .int 0])), (a2, .inr (4, [.int 0, .ref ed, .int 0])), (a3, .inr (4, [.int 0, .ref ed, .int 0])), (tt, .inl (cT, 24, .inl (fun _ => 0))), (rr, .inr (6, [.ref t1, .ref t2, .int 0, .int 0, .long 0, .long 0])), (b1, .inr (4, [.int 0, .ref ed, .int 0])), (b2, .inr (4, [.int 0, .ref ed, .int 0])), (b3, .inr (4, [.int 0, .ref ed, .int 0])), (b5, .inr (4, [.int 0, .ref ed, .int 0])), (ou, .inl (cO, 1, .inr (.inl (fun _ => 0)))), (od, .inl (cD, 1, .inr (.inr (.inr (.inl (fun _ => 0)))))), (x, .inr (11, [.ref a1, .ref a2, .ref a3, .ref a4, .ref tt, .int 0, .ref rr, .ref cq])), (a4, .inr (4, [.int 0, .ref ed, .int 0])), (mo, .inr (15, [.ref b1, .ref b2, .ref b3, .ref b4, .ref b5, .int 1])), (b4, .inr (4, [.int 0, .ref ed, .int 0]))] H := hP
  have hD : va_D (fun q : Nat => s.heap.size ≤ q) [(a1, .inr (4, [.int 0, .ref ed, .int 0])), (a2, .inr (4, [.int 0, .ref ed, .int 0])), (a3, .inr (4, [.int 0, .ref ed, .int 0])), (tt, .inl (cT, 24, .inl (fun _ => 0))), (rr, .inr (6, [.ref t1, .ref t2, .int 0, .int 0, .long 0, .long 0])), (b1, .inr (4, [.int 0, .ref ed, .int 0])), (b2, .inr (4, [.int 0, .ref ed, .int 0])), (b3, .inr (4, [.int 0, .ref ed, .int 0])), (b5, .inr (4, [.int 0, .ref ed, .int 0])), (ou, .inl (cO, 1, .inr (.inl (fun _ => 0)))), (od, .inl (cD, 1, .inr (.inr (.inr (.inl (fun _ => 0)))))), (x, .inr (11, [.ref a1, .ref a2, .ref a3, .ref a4, .ref tt, .int 0, .ref rr, .ref cq])), (a4, .inr (4, [.int 0, .ref ed, .int 0])), (mo, .inr (15, [.ref b1, .ref b2, .ref b3, .ref b4, .ref b5, .int 1])), (b4, .inr (4, [.int 0, .ref ed, .int 0]))] := hD
  have hK : va_K (dC, dI) vwCl [(cT, .int), (cO, .long), (cD, .double)] s := hK
  refine W.widen (k := 28) (n := 304) (Nat.le_of_ble_eq_true rfl) (Nat.le_of_ble_eq_true rfl) ?_
  have hw : r_601 = 0 := hw
  subst hw
  refine lv_istore (lv' := [(7, .int 0), (6, .int 1), (5, .int 0), (4, .ref od), (3, .ref ou), (2, .ref mo), (1, .ref x), (0, .ref b)]) hx hb dL_law_1739 hl (by decide) rfl (fun ls hl => ?_)
  refine lv_aload_n hx hb dL_law_1741 rfl (lv_at hl 5 rfl) ?_
  have hPc := hP.sub (ws' := [(mo, .inr (15, [.ref b1, .ref b2, .ref b3, .ref b4, .ref b5, .int 1]))]) [13] rfl
  have hDc := hD.sub (ws' := [(mo, .inr (15, [.ref b1, .ref b2, .ref b3, .ref b4, .ref b5, .int 1]))]) [13] (by decide) rfl
  have hKc := hK.sub (tys' := []) [] rfl
  have hFc := va_free (wc := [(mo, .inr (15, [.ref b1, .ref b2, .ref b3, .ref b4, .ref b5, .int 1]))]) hD hS hA [13] rfl
  refine va_calli (va_runV (As := []) (rest := []) ⟨hx, hb, hml, hown, hts⟩ (n_thrown l dC dI H.size mo (.ref b1) (.ref b2) (.ref b3) (.ref b4) (.ref b5) 1) (cwV 0 hts (pw_V q1244 q1245 q1246 q49 q1247) rfl rfl rfl (by decide +kernel) ⟨(Nat.le_of_ble_eq_true rfl), (Nat.le_of_ble_eq_true rfl)⟩) ⟨fun a U g mk q => by obtain ⟨q0, q1, qP, qK, qD⟩ := q; exact ⟨q0, q1, qP, va_K.moved (u := U) (U := U.calling g mk a) (Vm.Alike.refl U.vm) qK, qD⟩, va_recv hKc hPc (ci := 15) (q0 := 0) rfl rfl, fun U hU hW => ⟨rfl, by rw [hU], by rw [hU]; exact hPc, va_K.moved hW.alike hKc, hDc.weaken (fun _ _ _ _ => trivial)⟩⟩ rfl rfl hl.1 rfl (lv_room (Nat.le_of_ble_eq_true rfl)) dL_law_1742 ⟨(Nat.le_of_ble_eq_true rfl), (Nat.le_of_ble_eq_true rfl)⟩) hS (fun q _ h => hFc q h) hFc (fun r_602 u t H1 locs ht hvm hw hB hz1 hk1 hS => ?_)
  obtain ⟨hP1, hK1, hD1⟩ := hB
  rw [ht] at hP1
  have hK1 := va_K.moved hvm.symm hK1
  obtain ⟨hP, hD⟩ := va_join (wr := [(a1, .inr (4, [.int 0, .ref ed, .int 0])), (a2, .inr (4, [.int 0, .ref ed, .int 0])), (a3, .inr (4, [.int 0, .ref ed, .int 0])), (tt, .inl (cT, 24, .inl (fun _ => 0))), (rr, .inr (6, [.ref t1, .ref t2, .int 0, .int 0, .long 0, .long 0])), (b1, .inr (4, [.int 0, .ref ed, .int 0])), (b2, .inr (4, [.int 0, .ref ed, .int 0])), (b3, .inr (4, [.int 0, .ref ed, .int 0])), (b5, .inr (4, [.int 0, .ref ed, .int 0])), (ou, .inl (cO, 1, .inr (.inl (fun _ => 0)))), (od, .inl (cD, 1, .inr (.inr (.inr (.inl (fun _ => 0)))))), (x, .inr (11, [.ref a1, .ref a2, .ref a3, .ref a4, .ref tt, .int 0, .ref rr, .ref cq])), (a4, .inr (4, [.int 0, .ref ed, .int 0])), (b4, .inr (4, [.int 0, .ref ed, .int 0]))]) (w1 := [(mo, .inr (15, [.ref b1, .ref b2, .ref b3, .ref b4, .ref b5, .int 1]))]) hP hD [13] [0, 1, 2, 3, 4, 5, 6, 7, 8, 9, 10, 11, 12, 14] rfl rfl (by decide) (by decide) hk1 hFc hP1 hD1
  have hK := (hK.sub (tys' := [(cT, .int), (cO, .long), (cD, .double)]) [0, 1, 2] rfl).app hK1
  generalize H1 = H at hP hS ⊢
  have hP : va_P (dC, dI) vwCl [(a1, .inr (4, [.int 0, .ref ed, .int 0])), (a2, .inr (4, [.int 0, .ref ed, .int 0])), (a3, .inr (4, [.int 0, .ref ed, .int 0])), (tt, .inl (cT, 24, .inl (fun _ => 0))), (rr, .inr (6, [.ref t1, .ref t2, .int 0, .int 0, .long 0, .long 0])), (b1, .inr (4, [.int 0, .ref ed, .int 0])), (b2, .inr (4, [.int 0, .ref ed, .int 0])), (b3, .inr (4, [.int 0, .ref ed, .int 0])), (b5, .inr (4, [.int 0, .ref ed, .int 0])), (ou, .inl (cO, 1, .inr (.inl (fun _ => 0)))), (od, .inl (cD, 1, .inr (.inr (.inr (.inl (fun _ => 0)))))), (x, .inr (11, [.ref a1, .ref a2, .ref a3, .ref a4, .ref tt, .int 0, .ref rr, .ref cq])), (a4, .inr (4, [.int 0, .ref ed, .int 0])), (b4, .inr (4, [.int 0, .ref ed, .int 0])), (mo, .inr (15, [.ref b1, .ref b2, .ref b3, .ref b4, .ref b5, .int 1]))] H := hP
  have hD : va_D (fun q : Nat => s.heap.size ≤ q) [(a1, .inr (4, [.int 0, .ref ed, .int 0])), (a2, .inr (4, [.int 0, .ref ed, .int 0])), (a3, .inr (4, [.int 0, .ref ed, .int 0])), (tt, .inl (cT, 24, .inl (fun _ => 0))), (rr, .inr (6, [.ref t1, .ref t2, .int 0, .int 0, .long 0, .long 0])), (b1, .inr (4, [.int 0, .ref ed, .int 0])), (b2, .inr (4, [.int 0, .ref ed, .int 0])), (b3, .inr (4, [.int 0, .ref ed, .int 0])), (b5, .inr (4, [.int 0, .ref ed, .int 0])), (ou, .inl (cO, 1, .inr (.inl (fun _ => 0)))), (od, .inl (cD, 1, .inr (.inr (.inr (.inl (fun _ => 0)))))), (x, .inr (11, [.ref a1, .ref a2, .ref a3, .ref a4, .ref tt, .int 0, .ref rr, .ref cq])), (a4, .inr (4, [.int 0, .ref ed, .int 0])), (b4, .inr (4, [.int 0, .ref ed, .int 0])), (mo, .inr (15, [.ref b1, .ref b2, .ref b3, .ref b4, .ref b5, .int 1]))] := hD
  have hK : va_K (dC, dI) vwCl [(cT, .int), (cO, .long), (cD, .double)] s := hK
  refine W.widen (k := 28) (n := 304) (Nat.le_of_ble_eq_true rfl) (Nat.le_of_ble_eq_true rfl) ?_
  have hw : r_602 = 1 := hw
  subst hw
  refine lv_iload hx hb dL_law_1745 (lv_at hl 1 rfl) ?_
  refine lv_icmp_eq (tgt := 1752) hx hb dL_law_1747 (by decide) (fun c_603 => ?_) (fun c_603 => absurd (by decide) c_603)
  refine lv_iload hx hb dL_law_1752 (lv_at hl 1 rfl) ?_
  refine lv_if_ne (tgt := 1769) hx hb dL_law_1754 (by decide) (fun c_604 => ?_) (fun c_604 => absurd c_604 (by decide))
  refine lv_goto (tgt := 3072) hx hb dL_law_1769 (by decide) ?_
  refine W.widen (k := 100) (n := 1000) (Nat.le_of_ble_eq_true rfl) (Nat.le_of_ble_eq_true rfl) ?_
  exact law_tail l C0 hS (lv_sub hl [2, 7] rfl)
set_option maxHeartbeats 4000000 in
set_option maxRecDepth 100000 in
theorem law_case_22 {p : Program} {e : Env} {s : State} {m : MethodId} {below : List Frame} {meth : Method} {c : Code} (l : Launch) (hl9 : l.stackTraces = false) (dC : Nat → ClassId) (dI : Nat → Nat → Nat) (ed : Nat) {b : Nat} {xs : Nat → Int32} (C0 : lw_At p s m meth c b 5 xs) (hZ : pz ed (fun q : Nat => s.heap.size ≤ q) s s.heap) (x a1 a2 a3 a4 tt rr cq t1 t2 mo b1 b2 b3 b4 b5 ou od : Nat) (cT cO cD : ClassId) {H : Heap} {locs : List Loc} (hK : va_K (dC, dI) vwCl [(cT, .int), (cO, .long), (cD, .double)] s) (hP : va_P (dC, dI) vwCl [(x, .inr (11, [.ref a1, .ref a2, .ref a3, .ref a4, .ref tt, .int 0, .ref rr, .ref cq])), (a1, .inr (4, [.int 0, .ref ed, .int 0])), (a2, .inr (4, [.int 0, .ref ed, .int 0])), (a3, .inr (4, [.int 0, .ref ed, .int 0])), (a4, .inr (4, [.int 0, .ref ed, .int 0])), (tt, .inl (cT, 24, .inl (fun _ => 0))), (rr, .inr (6, [.ref t1, .ref t2, .int 0, .int 0, .long 0, .long 0])), (mo, .inr (15, [.ref b1, .ref b2, .ref b3, .ref b4, .ref b5, .int 0])), (b1, .inr (4, [.int 0, .ref ed, .int 0])), (b2, .inr (4, [.int 0, .ref ed, .int 0])), (b3, .inr (4, [.int 0, .ref ed, .int 0])), (b4, .inr (4, [.int 0, .ref ed, .int 0])), (b5, .inr (4, [.int 0, .ref ed, .int 0])), (ou, .inl (cO, 1, .inr (.inl (fun _ => 0)))), (od, .inl (cD, 1, .inr (.inr (.inr (.inl (fun _ => 0))))))] H) (hD : va_D (fun q : Nat => s.heap.size ≤ q) [(x, .inr (11, [.ref a1, .ref a2, .ref a3, .ref a4, .ref tt, .int 0, .ref rr, .ref cq])), (a1, .inr (4, [.int 0, .ref ed, .int 0])), (a2, .inr (4, [.int 0, .ref ed, .int 0])), (a3, .inr (4, [.int 0, .ref ed, .int 0])), (a4, .inr (4, [.int 0, .ref ed, .int 0])), (tt, .inl (cT, 24, .inl (fun _ => 0))), (rr, .inr (6, [.ref t1, .ref t2, .int 0, .int 0, .long 0, .long 0])), (mo, .inr (15, [.ref b1, .ref b2, .ref b3, .ref b4, .ref b5, .int 0])), (b1, .inr (4, [.int 0, .ref ed, .int 0])), (b2, .inr (4, [.int 0, .ref ed, .int 0])), (b3, .inr (4, [.int 0, .ref ed, .int 0])), (b4, .inr (4, [.int 0, .ref ed, .int 0])), (b5, .inr (4, [.int 0, .ref ed, .int 0])), (ou, .inl (cO, 1, .inr (.inl (fun _ => 0)))), (od, .inl (cD, 1, .inr (.inr (.inr (.inl (fun _ => 0))))))]) (hS : va_S (fun q : Nat => s.heap.size ≤ q) s.heap H locs) {ls : Array Slot} (hl : lv_has ls 9 [(5, .int 0), (4, .ref od), (3, .ref ou), (2, .ref mo), (1, .ref x), (0, .ref b)]) : W p l e room_1 s m #[Value.ref b] below meth c H locs 27 298 (lw_Z below #[Value.ref b] s) (F0 m 1772 ls []) := by
  obtain ⟨hx, hb, hr, hml, hown, hts0, hX, hbl, hlocks, hgv⟩ := id C0
  have hts : ∀ w ∈ pw_all, w.before #[Value.ref b] s = true := fun w h => hts0 w (pw_tbl h)
  have hA : ∀ q : Nat, s.heap.size ≤ q → (fun q : Nat => s.heap.size ≤ q) q := fun _ h => h
  have hbA : ¬ (fun q : Nat => s.heap.size ≤ q) b := Nat.not_le.mpr hbl
  refine lv_aload_n hx hb dL_law_1772 rfl (lv_at hl 4 rfl) ?_
  refine lv_aload_n hx hb dL_law_1773 rfl (lv_at hl 5 rfl) ?_
  refine lv_iload hx hb dL_law_1774 (lv_at hl 0 rfl) ?_
  refine lv_iconst (v := 1) hx hb dL_law_1776 (by decide) ?_
  refine lv_iadd hx hb dL_law_1777 ?_
  refine lv_numI (v := 1) (by decide) ?_
  refine va_sld hx hb hX hbl hbA hS (by unfold vp_in; decide) dL_law_1778 ?_
  refine lv_aload_n hx hb dL_law_1779 rfl (lv_at hl 5 rfl) ?_
  refine lv_iload hx hb dL_law_1780 (lv_at hl 0 rfl) ?_
  refine lv_iconst (v := 2) hx hb dL_law_1782 (by decide) ?_
  refine lv_iadd hx hb dL_law_1783 ?_
  refine lv_numI (v := 2) (by decide) ?_
  refine va_sld hx hb hX hbl hbA hS (by unfold vp_in; decide) dL_law_1784 ?_
  refine lv_aload_n hx hb dL_law_1785 rfl (lv_at hl 2 rfl) ?_
  have hPc := hP.sub (ws' := [(x, .inr (11, [.ref a1, .ref a2, .ref a3, .ref a4, .ref tt, .int 0, .ref rr, .ref cq])), (a4, .inr (4, [.int 0, .ref ed, .int 0]))]) [0, 4] rfl
  have hDc := hD.sub (ws' := [(x, .inr (11, [.ref a1, .ref a2, .ref a3, .ref a4, .ref tt, .int 0, .ref rr, .ref cq])), (a4, .inr (4, [.int 0, .ref ed, .int 0]))]) [0, 4] (by decide) rfl
  have hKc := hK.sub (tys' := []) [] rfl
  have hFc := va_free (wc := [(x, .inr (11, [.ref a1, .ref a2, .ref a3, .ref a4, .ref tt, .int 0, .ref rr, .ref cq])), (a4, .inr (4, [.int 0, .ref ed, .int 0]))]) hD hS hA [0, 4] rfl
  refine va_calli (vx_runSW (As := [.ref x, .int (xs (Int32.toNatClampNeg 1)), .int (xs (Int32.toNatClampNeg 2)), .ref ou]) (rest := []) ⟨hx, hb, hml, hown, hts⟩ (w_sign l hl9 dC dI H.size ed x a4 (.ref a1) (.ref a2) (.ref a3) (.ref tt) (.int 0) (.ref rr) (.ref cq) (.int 0) (.ref ed) (xs (Int32.toNatClampNeg 1)) (xs (Int32.toNatClampNeg 2)) ou) (vx_cwSW 4 hts (pw_S q1008 q1009 q42 q1010) rfl rfl rfl (by decide +kernel) ⟨(Nat.le_of_ble_eq_true rfl), (Nat.le_of_ble_eq_true rfl)⟩) ⟨fun a U g mk q => by obtain ⟨q0, q1, qP, qK, qD, qZ⟩ := q; exact ⟨q0, q1, qP, va_K.moved (u := U) (U := U.calling g mk a) (Vm.Alike.refl U.vm) qK, qD, qZ.same rfl⟩, fun U hU hW => ⟨rfl, by rw [hU], by rw [hU]; exact hPc, va_K.moved hW.alike hKc, hDc.weaken (fun _ _ _ _ => trivial), hZ.call hS hFc hU hW⟩⟩ rfl rfl hl.1 rfl (lv_room (Nat.le_of_ble_eq_true rfl)) dL_law_1786 ⟨(Nat.le_of_ble_eq_true rfl), (Nat.le_of_ble_eq_true rfl)⟩) hS (fun q _ h => hFc q h) hFc (fun r_605 u t H1 locs ht hvm hw hB hz1 hk1 hS => ?_)
  obtain ⟨hP1, hK1, hD1⟩ := hB
  rw [ht] at hP1
  have hK1 := va_K.moved hvm.symm hK1
  obtain ⟨hP, hD⟩ := va_join (wr := [(a1, .inr (4, [.int 0, .ref ed, .int 0])), (a2, .inr (4, [.int 0, .ref ed, .int 0])), (a3, .inr (4, [.int 0, .ref ed, .int 0])), (tt, .inl (cT, 24, .inl (fun _ => 0))), (rr, .inr (6, [.ref t1, .ref t2, .int 0, .int 0, .long 0, .long 0])), (mo, .inr (15, [.ref b1, .ref b2, .ref b3, .ref b4, .ref b5, .int 0])), (b1, .inr (4, [.int 0, .ref ed, .int 0])), (b2, .inr (4, [.int 0, .ref ed, .int 0])), (b3, .inr (4, [.int 0, .ref ed, .int 0])), (b4, .inr (4, [.int 0, .ref ed, .int 0])), (b5, .inr (4, [.int 0, .ref ed, .int 0])), (ou, .inl (cO, 1, .inr (.inl (fun _ => 0)))), (od, .inl (cD, 1, .inr (.inr (.inr (.inl (fun _ => 0))))))]) (w1 := [(x, .inr (11, [.ref a1, .ref a2, .ref a3, .ref a4, .ref tt, .int 0, .ref rr, .ref cq])), (a4, .inr (4, [.int 0, .ref ed, .int 0]))]) hP hD [0, 4] [1, 2, 3, 5, 6, 7, 8, 9, 10, 11, 12, 13, 14] rfl rfl (by decide) (by decide) hk1 hFc hP1 hD1
  have hK := (hK.sub (tys' := [(cT, .int), (cO, .long), (cD, .double)]) [0, 1, 2] rfl).app hK1
  generalize H1 = H at hP hS ⊢
  have hP : va_P (dC, dI) vwCl [(a1, .inr (4, [.int 0, .ref ed, .int 0])), (a2, .inr (4, [.int 0, .ref ed, .int 0])), (a3, .inr (4, [.int 0, .ref ed, .int 0])), (tt, .inl (cT, 24, .inl (fun _ => 0))), (rr, .inr (6, [.ref t1, .ref t2, .int 0, .int 0, .long 0, .long 0])), (mo, .inr (15, [.ref b1, .ref b2, .ref b3, .ref b4, .ref b5, .int 0])), (b1, .inr (4, [.int 0, .ref ed, .int 0])), (b2, .inr (4, [.int 0, .ref ed, .int 0])), (b3, .inr (4, [.int 0, .ref ed, .int 0])), (b4, .inr (4, [.int 0, .ref ed, .int 0])), (b5, .inr (4, [.int 0, .ref ed, .int 0])), (ou, .inl (cO, 1, .inr (.inl (fun _ => 0)))), (od, .inl (cD, 1, .inr (.inr (.inr (.inl (fun _ => 0)))))), (x, .inr (11, [.ref a1, .ref a2, .ref a3, .ref a4, .ref tt, .int 0, .ref rr, .ref cq])), (a4, .inr (4, [.int 0, .ref ed, .int 0]))] H := hP
  have hD : va_D (fun q : Nat => s.heap.size ≤ q) [(a1, .inr (4, [.int 0, .ref ed, .int 0])), (a2, .inr (4, [.int 0, .ref ed, .int 0])), (a3, .inr (4, [.int 0, .ref ed, .int 0])), (tt, .inl (cT, 24, .inl (fun _ => 0))), (rr, .inr (6, [.ref t1, .ref t2, .int 0, .int 0, .long 0, .long 0])), (mo, .inr (15, [.ref b1, .ref b2, .ref b3, .ref b4, .ref b5, .int 0])), (b1, .inr (4, [.int 0, .ref ed, .int 0])), (b2, .inr (4, [.int 0, .ref ed, .int 0])), (b3, .inr (4, [.int 0, .ref ed, .int 0])), (b4, .inr (4, [.int 0, .ref ed, .int 0])), (b5, .inr (4, [.int 0, .ref ed, .int 0])), (ou, .inl (cO, 1, .inr (.inl (fun _ => 0)))), (od, .inl (cD, 1, .inr (.inr (.inr (.inl (fun _ => 0)))))), (x, .inr (11, [.ref a1, .ref a2, .ref a3, .ref a4, .ref tt, .int 0, .ref rr, .ref cq])), (a4, .inr (4, [.int 0, .ref ed, .int 0]))] := hD
  have hK : va_K (dC, dI) vwCl [(cT, .int), (cO, .long), (cD, .double)] s := hK
  refine W.widen (k := 28) (n := 304) (Nat.le_of_ble_eq_true rfl) (Nat.le_of_ble_eq_true rfl) ?_
  have hw : r_605 = 1 := hw
  subst hw
  refine lv_istore (lv' := [(6, .int 1), (5, .int 0), (4, .ref od), (3, .ref ou), (2, .ref mo), (1, .ref x), (0, .ref b)]) hx hb dL_law_1789 hl (by decide) rfl (fun ls hl => ?_)
  refine lv_aload_n hx hb dL_law_1791 rfl (lv_at hl 4 rfl) ?_
  refine lv_aload_n hx hb dL_law_1792 rfl (lv_at hl 6 rfl) ?_
  refine lv_iload hx hb dL_law_1793 (lv_at hl 1 rfl) ?_
  refine lv_iconst (v := 1) hx hb dL_law_1795 (by decide) ?_
  refine lv_iadd hx hb dL_law_1796 ?_
  refine lv_numI (v := 1) (by decide) ?_
  refine va_sld hx hb hX hbl hbA hS (by unfold vp_in; decide) dL_law_1797 ?_
  refine lv_aload_n hx hb dL_law_1798 rfl (lv_at hl 6 rfl) ?_
  refine lv_iload hx hb dL_law_1799 (lv_at hl 1 rfl) ?_
  refine lv_iconst (v := 2) hx hb dL_law_1801 (by decide) ?_
  refine lv_iadd hx hb dL_law_1802 ?_
  refine lv_numI (v := 2) (by decide) ?_
  refine va_sld hx hb hX hbl hbA hS (by unfold vp_in; decide) dL_law_1803 ?_
  have hPc := hP.sub (ws' := [(mo, .inr (15, [.ref b1, .ref b2, .ref b3, .ref b4, .ref b5, .int 0])), (b4, .inr (4, [.int 0, .ref ed, .int 0]))]) [5, 9] rfl
  have hDc := hD.sub (ws' := [(mo, .inr (15, [.ref b1, .ref b2, .ref b3, .ref b4, .ref b5, .int 0])), (b4, .inr (4, [.int 0, .ref ed, .int 0]))]) [5, 9] (by decide) rfl
  have hKc := hK.sub (tys' := []) [] rfl
  have hFc := va_free (wc := [(mo, .inr (15, [.ref b1, .ref b2, .ref b3, .ref b4, .ref b5, .int 0])), (b4, .inr (4, [.int 0, .ref ed, .int 0]))]) hD hS hA [5, 9] rfl
  refine va_calli (va_runV (As := [.int (xs (Int32.toNatClampNeg 1)), .int (xs (Int32.toNatClampNeg 2))]) (rest := []) ⟨hx, hb, hml, hown, hts⟩ (y_sign l dC dI H.size mo b4 (.ref b1) (.ref b2) (.ref b3) (.ref b5) (.int 0) (.ref ed) 0 (xs (Int32.toNatClampNeg 1)) (xs (Int32.toNatClampNeg 2))) (cwV 2 hts (pw_V q1906 q1907 q1908 q49 q1909) rfl rfl rfl (by decide +kernel) ⟨(Nat.le_of_ble_eq_true rfl), (Nat.le_of_ble_eq_true rfl)⟩) ⟨fun a U g mk q => by obtain ⟨q0, q1, qP, qK, qD⟩ := q; exact ⟨q0, q1, qP, va_K.moved (u := U) (U := U.calling g mk a) (Vm.Alike.refl U.vm) qK, qD⟩, va_recv hKc hPc (ci := 15) (q0 := 0) rfl rfl, fun U hU hW => ⟨rfl, by rw [hU], by rw [hU]; exact hPc, va_K.moved hW.alike hKc, hDc.weaken (fun _ _ _ _ => trivial)⟩⟩ rfl rfl hl.1 rfl (lv_room (Nat.le_of_ble_eq_true rfl)) dL_law_1804 ⟨(Nat.le_of_ble_eq_true rfl), (Nat.le_of_ble_eq_true rfl)⟩) hS (fun q _ h => hFc q h) hFc (fun r_606 u t H1 locs ht hvm hw hB hz1 hk1 hS => ?_)
  obtain ⟨hP1, hK1, hD1⟩ := hB
  rw [ht] at hP1
  have hK1 := va_K.moved hvm.symm hK1
  obtain ⟨hP, hD⟩ := va_join (wr := [(a1, .inr (4, [.int 0, .ref ed, .int 0])), (a2, .inr (4, [.int 0, .ref ed, .int 0])), (a3, .inr (4, [.int 0, .ref ed, .int 0])), (tt, .inl (cT, 24, .inl (fun _ => 0))), (rr, .inr (6, [.ref t1, .ref t2, .int 0, .int 0, .long 0, .long 0])), (b1, .inr (4, [.int 0, .ref ed, .int 0])), (b2, .inr (4, [.int 0, .ref ed, .int 0])), (b3, .inr (4, [.int 0, .ref ed, .int 0])), (b5, .inr (4, [.int 0, .ref ed, .int 0])), (ou, .inl (cO, 1, .inr (.inl (fun _ => 0)))), (od, .inl (cD, 1, .inr (.inr (.inr (.inl (fun _ => 0)))))), (x, .inr (11, [.ref a1, .ref a2, .ref a3, .ref a4, .ref tt, .int 0, .ref rr, .ref cq])), (a4, .inr (4, [.int 0, .ref ed, .int 0]))]) (w1 := [(mo, .inr (15, [.ref b1, .ref b2, .ref b3, .ref b4, .ref b5, .int 1])), (b4, .inr (4, [.int 0, .ref ed, .int 0]))]) hP hD [5, 9] [0, 1, 2, 3, 4, 6, 7, 8, 10, 11, 12, 13, 14] rfl rfl (by decide) (by decide) hk1 hFc hP1 hD1
  have hK := (hK.sub (tys' := [(cT, .int), (cO, .long), (cD, .double)]) [0, 1, 2] rfl).app hK1
  generalize H1 = H at hP hS ⊢
  have hP : va_P (dC, dI) vwCl [(a1, .inr (4, [.int 0, .ref ed, .int 0])), (a2, .inr (4, [.int 0, .ref ed, .int 0])), (a3, .inr (4, [.int 0, .ref ed, .int 0])), (tt, .inl (cT, 24, .inl (fun _ => 0))), (rr, .inr (6, [.ref t1, .ref t2, .int 0, .int 0, .long 0, .long 0])), (b1, .inr (4, [.int 0, .ref ed, .int 0])), (b2, .inr (4, [.int 0, .ref ed, .int 0])), (b3, .inr (4, [.int 0, .ref ed, .int 0])), (b5, .inr (4, [.int 0, .ref ed, .int 0])), (ou, .inl (cO, 1, .inr (.inl (fun _ => 0)))), (od, .inl (cD, 1, .inr (.inr (.inr (.inl (fun _ => 0)))))), (x, .inr (11, [.ref a1, .ref a2, .ref a3, .ref a4, .ref tt, .int 0, .ref rr, .ref cq])), (a4, .inr (4, [.int 0, .ref ed, .int 0])), (mo, .inr (15, [.ref b1, .ref b2, .ref b3, .ref b4, .ref b5, .int 1])), (b4, .inr (4, [.int 0, .ref ed, .int 0]))] H := hP
  have hD : va_D (fun q : Nat => s.heap.size ≤ q) [(a1, .inr (4, [.int 0, .ref ed, .int 0])), (a2, .inr (4, [.int 0, .ref ed, .int 0])), (a3, .inr (4, [.int 0, .ref ed, .int 0])), (tt, .inl (cT, 24, .inl (fun _ => 0))), (rr, .inr (6, [.ref t1, .ref t2, .int 0, .int 0, .long 0, .long 0])), (b1, .inr (4, [.int 0, .ref ed, .int 0])), (b2, .inr (4, [.int 0, .ref ed, .int 0])), (b3, .inr (4, [.int 0, .ref ed, .int 0])), (b5, .inr (4, [.int 0, .ref ed, .int 0])), (ou, .inl (cO, 1, .inr (.inl (fun _ => 0)))), (od, .inl (cD, 1, .inr (.inr (.inr (.inl (fun _ => 0)))))), (x, .inr (11, [.ref a1, .ref a2, .ref a3, .ref a4, .ref tt, .int 0, .ref rr, .ref cq])), (a4, .inr (4, [.int 0, .ref ed, .int 0])), (mo, .inr (15, [.ref b1, .ref b2, .ref b3, .ref b4, .ref b5, .int 1])), (b4, .inr (4, [.int 0, .ref ed, .int 0]))] := hD
  have hK : va_K (dC, dI) vwCl [(cT, .int), (cO, .long), (cD, .double)] s := hK
  refine W.widen (k := 28) (n := 304) (Nat.le_of_ble_eq_true rfl) (Nat.le_of_ble_eq_true rfl) ?_
  have hw : r_606 = 0 := hw
  subst hw
  refine lv_istore (lv' := [(7, .int 0), (6, .int 1), (5, .int 0), (4, .ref od), (3, .ref ou), (2, .ref mo), (1, .ref x), (0, .ref b)]) hx hb dL_law_1807 hl (by decide) rfl (fun ls hl => ?_)
  refine lv_aload_n hx hb dL_law_1809 rfl (lv_at hl 5 rfl) ?_
  have hPc := hP.sub (ws' := [(mo, .inr (15, [.ref b1, .ref b2, .ref b3, .ref b4, .ref b5, .int 1]))]) [13] rfl
  have hDc := hD.sub (ws' := [(mo, .inr (15, [.ref b1, .ref b2, .ref b3, .ref b4, .ref b5, .int 1]))]) [13] (by decide) rfl
  have hKc := hK.sub (tys' := []) [] rfl
  have hFc := va_free (wc := [(mo, .inr (15, [.ref b1, .ref b2, .ref b3, .ref b4, .ref b5, .int 1]))]) hD hS hA [13] rfl
  refine va_calli (va_runV (As := []) (rest := []) ⟨hx, hb, hml, hown, hts⟩ (n_thrown l dC dI H.size mo (.ref b1) (.ref b2) (.ref b3) (.ref b4) (.ref b5) 1) (cwV 0 hts (pw_V q1244 q1245 q1246 q49 q1247) rfl rfl rfl (by decide +kernel) ⟨(Nat.le_of_ble_eq_true rfl), (Nat.le_of_ble_eq_true rfl)⟩) ⟨fun a U g mk q => by obtain ⟨q0, q1, qP, qK, qD⟩ := q; exact ⟨q0, q1, qP, va_K.moved (u := U) (U := U.calling g mk a) (Vm.Alike.refl U.vm) qK, qD⟩, va_recv hKc hPc (ci := 15) (q0 := 0) rfl rfl, fun U hU hW => ⟨rfl, by rw [hU], by rw [hU]; exact hPc, va_K.moved hW.alike hKc, hDc.weaken (fun _ _ _ _ => trivial)⟩⟩ rfl rfl hl.1 rfl (lv_room (Nat.le_of_ble_eq_true rfl)) dL_law_1810 ⟨(Nat.le_of_ble_eq_true rfl), (Nat.le_of_ble_eq_true rfl)⟩) hS (fun q _ h => hFc q h) hFc (fun r_607 u t H1 locs ht hvm hw hB hz1 hk1 hS => ?_)
  obtain ⟨hP1, hK1, hD1⟩ := hB
  rw [ht] at hP1
  have hK1 := va_K.moved hvm.symm hK1
  obtain ⟨hP, hD⟩ := va_join (wr := [(a1, .inr (4, [.int 0, .ref ed, .int 0])), (a2, .inr (4, [.int 0, .ref ed, .int 0])), (a3, .inr (4, [.int 0, .ref ed, .int 0])), (tt, .inl (cT, 24, .inl (fun _ => 0))), (rr, .inr (6, [.ref t1, .ref t2, .int 0, .int 0, .long 0, .long 0])), (b1, .inr (4, [.int 0, .ref ed, .int 0])), (b2, .inr (4, [.int 0, .ref ed, .int 0])), (b3, .inr (4, [.int 0, .ref ed, .int 0])), (b5, .inr (4, [.int 0, .ref ed, .int 0])), (ou, .inl (cO, 1, .inr (.inl (fun _ => 0)))), (od, .inl (cD, 1, .inr (.inr (.inr (.inl (fun _ => 0)))))), (x, .inr (11, [.ref a1, .ref a2, .ref a3, .ref a4, .ref tt, .int 0, .ref rr, .ref cq])), (a4, .inr (4, [.int 0, .ref ed, .int 0])), (b4, .inr (4, [.int 0, .ref ed, .int 0]))]) (w1 := [(mo, .inr (15, [.ref b1, .ref b2, .ref b3, .ref b4, .ref b5, .int 1]))]) hP hD [13] [0, 1, 2, 3, 4, 5, 6, 7, 8, 9, 10, 11, 12, 14] rfl rfl (by decide) (by decide) hk1 hFc hP1 hD1
  have hK := (hK.sub (tys' := [(cT, .int), (cO, .long), (cD, .double)]) [0, 1, 2] rfl).app hK1
  generalize H1 = H at hP hS ⊢
  have hP : va_P (dC, dI) vwCl [(a1, .inr (4, [.int 0, .ref ed, .int 0])), (a2, .inr (4, [.int 0, .ref ed, .int 0])), (a3, .inr (4, [.int 0, .ref ed, .int 0])), (tt, .inl (cT, 24, .inl (fun _ => 0))), (rr, .inr (6, [.ref t1, .ref t2, .int 0, .int 0, .long 0, .long 0])), (b1, .inr (4, [.int 0, .ref ed, .int 0])), (b2, .inr (4, [.int 0, .ref ed, .int 0])), (b3, .inr (4, [.int 0, .ref ed, .int 0])), (b5, .inr (4, [.int 0, .ref ed, .int 0])), (ou, .inl (cO, 1, .inr (.inl (fun _ => 0)))), (od, .inl (cD, 1, .inr (.inr (.inr (.inl (fun _ => 0)))))), (x, .inr (11, [.ref a1, .ref a2, .ref a3, .ref a4, .ref tt, .int 0, .ref rr, .ref cq])), (a4, .inr (4, [.int 0, .ref ed, .int 0])), (b4, .inr (4, [.int 0, .ref ed, .int 0])), (mo, .inr (15, [.ref b1, .ref b2, .ref b3, .ref b4, .ref b5, .int 1]))] H := hP
  have hD : va_D (fun q : Nat => s.heap.size ≤ q) [(a1, .inr (4, [.int 0, .ref ed, .int 0])), (a2, .inr (4, [.int 0, .ref ed, .int 0])), (a3, .inr (4, [.int 0, .ref ed, .int 0])), (tt, .inl (cT, 24, .inl (fun _ => 0))), (rr, .inr (6, [.ref t1, .ref t2, .int 0, .int 0, .long 0, .long 0])), (b1, .inr (4, [.int 0, .ref ed, .int 0])), (b2, .inr (4, [.int 0, .ref ed, .int 0])), (b3, .inr (4, [.int 0, .ref ed, .int 0])), (b5, .inr (4, [.int 0, .ref ed, .int 0])), (ou, .inl (cO, 1, .inr (.inl (fun _ => 0)))), (od, .inl (cD, 1, .inr (.inr (.inr (.inl (fun _ => 0)))))), (x, .inr (11, [.ref a1, .ref a2, .ref a3, .ref a4, .ref tt, .int 0, .ref rr, .ref cq])), (a4, .inr (4, [.int 0, .ref ed, .int 0])), (b4, .inr (4, [.int 0, .ref ed, .int 0])), (mo, .inr (15, [.ref b1, .ref b2, .ref b3, .ref b4, .ref b5, .int 1]))] := hD
  have hK : va_K (dC, dI) vwCl [(cT, .int), (cO, .long), (cD, .double)] s := hK
  refine W.widen (k := 28) (n := 304) (Nat.le_of_ble_eq_true rfl) (Nat.le_of_ble_eq_true rfl) ?_
  have hw : r_607 = 1 := hw
  subst hw
  refine lv_iload hx hb dL_law_1813 (lv_at hl 1 rfl) ?_
  refine lv_icmp_eq (tgt := 1820) hx hb dL_law_1815 (by decide) (fun c_608 => ?_) (fun c_608 => absurd (by decide) c_608)
  refine lv_iload hx hb dL_law_1820 (lv_at hl 1 rfl) ?_
  refine lv_if_ne (tgt := 1837) hx hb dL_law_1822 (by decide) (fun c_609 => ?_) (fun c_609 => absurd c_609 (by decide))
  refine lv_goto (tgt := 3072) hx hb dL_law_1837 (by decide) ?_
  refine W.widen (k := 100) (n := 1000) (Nat.le_of_ble_eq_true rfl) (Nat.le_of_ble_eq_true rfl) ?_
  exact law_tail l C0 hS (lv_sub hl [2, 7] rfl)
set_option maxHeartbeats 4000000 in
set_option maxRecDepth 100000 in
theorem law_case_23 {p : Program} {e : Env} {s : State} {m : MethodId} {below : List Frame} {meth : Method} {c : Code} (l : Launch) (hl9 : l.stackTraces = false) (dC : Nat → ClassId) (dI : Nat → Nat → Nat) (ed : Nat) {b : Nat} {xs : Nat → Int32} (C0 : lw_At p s m meth c b 5 xs) (hZ : pz ed (fun q : Nat => s.heap.size ≤ q) s s.heap) (x a1 a2 a3 a4 tt rr cq t1 t2 mo b1 b2 b3 b4 b5 ou od : Nat) (cT cO cD : ClassId) {H : Heap} {locs : List Loc} (hK : va_K (dC, dI) vwCl [(cT, .int), (cO, .long), (cD, .double)] s) (hP : va_P (dC, dI) vwCl [(x, .inr (11, [.ref a1, .ref a2, .ref a3, .ref a4, .ref tt, .int 0, .ref rr, .ref cq])), (a1, .inr (4, [.int 0, .ref ed, .int 0])), (a2, .inr (4, [.int 0, .ref ed, .int 0])), (a3, .inr (4, [.int 0, .ref ed, .int 0])), (a4, .inr (4, [.int 0, .ref ed, .int 0])), (tt, .inl (cT, 24, .inl (fun _ => 0))), (rr, .inr (6, [.ref t1, .ref t2, .int 0, .int 0, .long 0, .long 0])), (mo, .inr (15, [.ref b1, .ref b2, .ref b3, .ref b4, .ref b5, .int 0])), (b1, .inr (4, [.int 0, .ref ed, .int 0])), (b2, .inr (4, [.int 0, .ref ed, .int 0])), (b3, .inr (4, [.int 0, .ref ed, .int 0])), (b4, .inr (4, [.int 0, .ref ed, .int 0])), (b5, .inr (4, [.int 0, .ref ed, .int 0])), (ou, .inl (cO, 1, .inr (.inl (fun _ => 0)))), (od, .inl (cD, 1, .inr (.inr (.inr (.inl (fun _ => 0))))))] H) (hD : va_D (fun q : Nat => s.heap.size ≤ q) [(x, .inr (11, [.ref a1, .ref a2, .ref a3, .ref a4, .ref tt, .int 0, .ref rr, .ref cq])), (a1, .inr (4, [.int 0, .ref ed, .int 0])), (a2, .inr (4, [.int 0, .ref ed, .int 0])), (a3, .inr (4, [.int 0, .ref ed, .int 0])), (a4, .inr (4, [.int 0, .ref ed, .int 0])), (tt, .inl (cT, 24, .inl (fun _ => 0))), (rr, .inr (6, [.ref t1, .ref t2, .int 0, .int 0, .long 0, .long 0])), (mo, .inr (15, [.ref b1, .ref b2, .ref b3, .ref b4, .ref b5, .int 0])), (b1, .inr (4, [.int 0, .ref ed, .int 0])), (b2, .inr (4, [.int 0, .ref ed, .int 0])), (b3, .inr (4, [.int 0, .ref ed, .int 0])), (b4, .inr (4, [.int 0, .ref ed, .int 0])), (b5, .inr (4, [.int 0, .ref ed, .int 0])), (ou, .inl (cO, 1, .inr (.inl (fun _ => 0)))), (od, .inl (cD, 1, .inr (.inr (.inr (.inl (fun _ => 0))))))]) (hS : va_S (fun q : Nat => s.heap.size ≤ q) s.heap H locs) {ls : Array Slot} (hl : lv_has ls 9 [(5, .int 0), (4, .ref od), (3, .ref ou), (2, .ref mo), (1, .ref x), (0, .ref b)]) : W p l e room_1 s m #[Value.ref b] below meth c H locs 27 298 (lw_Z below #[Value.ref b] s) (F0 m 1840 ls []) := by
  obtain ⟨hx, hb, hr, hml, hown, hts0, hX, hbl, hlocks, hgv⟩ := id C0
  have hts : ∀ w ∈ pw_all, w.before #[Value.ref b] s = true := fun w h => hts0 w (pw_tbl h)
  have hA : ∀ q : Nat, s.heap.size ≤ q → (fun q : Nat => s.heap.size ≤ q) q := fun _ h => h
  have hbA : ¬ (fun q : Nat => s.heap.size ≤ q) b := Nat.not_le.mpr hbl
  refine lv_aload_n hx hb dL_law_1840 rfl (lv_at hl 4 rfl) ?_
  refine lv_aload_n hx hb dL_law_1841 rfl (lv_at hl 5 rfl) ?_
  refine lv_iload hx hb dL_law_1842 (lv_at hl 0 rfl) ?_
  refine lv_iconst (v := 1) hx hb dL_law_1844 (by decide) ?_
  refine lv_iadd hx hb dL_law_1845 ?_
  refine lv_numI (v := 1) (by decide) ?_
  refine va_sld hx hb hX hbl hbA hS (by unfold vp_in; decide) dL_law_1846 ?_
  refine lv_aload_n hx hb dL_law_1847 rfl (lv_at hl 5 rfl) ?_
  refine lv_iload hx hb dL_law_1848 (lv_at hl 0 rfl) ?_
  refine lv_iconst (v := 2) hx hb dL_law_1850 (by decide) ?_
  refine lv_iadd hx hb dL_law_1851 ?_
  refine lv_numI (v := 2) (by decide) ?_
  refine va_sld hx hb hX hbl hbA hS (by unfold vp_in; decide) dL_law_1852 ?_
  refine lv_aload_n hx hb dL_law_1853 rfl (lv_at hl 5 rfl) ?_
  refine lv_iload hx hb dL_law_1854 (lv_at hl 0 rfl) ?_
  refine lv_iconst (v := 3) hx hb dL_law_1856 (by decide) ?_
  refine lv_iadd hx hb dL_law_1857 ?_
  refine lv_numI (v := 3) (by decide) ?_
  refine va_sld hx hb hX hbl hbA hS (by unfold vp_in; decide) dL_law_1858 ?_
  refine lv_aload_n hx hb dL_law_1859 rfl (lv_at hl 2 rfl) ?_
  have hPc := hP.sub (ws' := [(x, .inr (11, [.ref a1, .ref a2, .ref a3, .ref a4, .ref tt, .int 0, .ref rr, .ref cq])), (a4, .inr (4, [.int 0, .ref ed, .int 0]))]) [0, 4] rfl
  have hDc := hD.sub (ws' := [(x, .inr (11, [.ref a1, .ref a2, .ref a3, .ref a4, .ref tt, .int 0, .ref rr, .ref cq])), (a4, .inr (4, [.int 0, .ref ed, .int 0]))]) [0, 4] (by decide) rfl
  have hKc := hK.sub (tys' := []) [] rfl
  have hFc := va_free (wc := [(x, .inr (11, [.ref a1, .ref a2, .ref a3, .ref a4, .ref tt, .int 0, .ref rr, .ref cq])), (a4, .inr (4, [.int 0, .ref ed, .int 0]))]) hD hS hA [0, 4] rfl
  refine va_calli (vx_runSW (As := [.ref x, .int (xs (Int32.toNatClampNeg 1)), .int (xs (Int32.toNatClampNeg 2)), .int (xs (Int32.toNatClampNeg 3)), .ref ou]) (rest := []) ⟨hx, hb, hml, hown, hts⟩ (w_setNotch l hl9 dC dI H.size ed x a4 (.ref a1) (.ref a2) (.ref a3) (.ref tt) (.int 0) (.ref rr) (.ref cq) (.int 0) (.ref ed) (xs (Int32.toNatClampNeg 1)) (xs (Int32.toNatClampNeg 2)) (xs (Int32.toNatClampNeg 3)) ou) (vx_cwSW 5 hts (pw_S q1016 q1017 q42 q1018) rfl rfl rfl (by decide +kernel) ⟨(Nat.le_of_ble_eq_true rfl), (Nat.le_of_ble_eq_true rfl)⟩) ⟨fun a U g mk q => by obtain ⟨q0, q1, qP, qK, qD, qZ⟩ := q; exact ⟨q0, q1, qP, va_K.moved (u := U) (U := U.calling g mk a) (Vm.Alike.refl U.vm) qK, qD, qZ.same rfl⟩, fun U hU hW => ⟨rfl, by rw [hU], by rw [hU]; exact hPc, va_K.moved hW.alike hKc, hDc.weaken (fun _ _ _ _ => trivial), hZ.call hS hFc hU hW⟩⟩ rfl rfl hl.1 rfl (lv_room (Nat.le_of_ble_eq_true rfl)) dL_law_1860 ⟨(Nat.le_of_ble_eq_true rfl), (Nat.le_of_ble_eq_true rfl)⟩) hS (fun q _ h => hFc q h) hFc (fun r_610 u t H1 locs ht hvm hw hB hz1 hk1 hS => ?_)
  obtain ⟨hP1, hK1, hD1⟩ := hB
  rw [ht] at hP1
  have hK1 := va_K.moved hvm.symm hK1
  obtain ⟨hP, hD⟩ := va_join (wr := [(a1, .inr (4, [.int 0, .ref ed, .int 0])), (a2, .inr (4, [.int 0, .ref ed, .int 0])), (a3, .inr (4, [.int 0, .ref ed, .int 0])), (tt, .inl (cT, 24, .inl (fun _ => 0))), (rr, .inr (6, [.ref t1, .ref t2, .int 0, .int 0, .long 0, .long 0])), (mo, .inr (15, [.ref b1, .ref b2, .ref b3, .ref b4, .ref b5, .int 0])), (b1, .inr (4, [.int 0, .ref ed, .int 0])), (b2, .inr (4, [.int 0, .ref ed, .int 0])), (b3, .inr (4, [.int 0, .ref ed, .int 0])), (b4, .inr (4, [.int 0, .ref ed, .int 0])), (b5, .inr (4, [.int 0, .ref ed, .int 0])), (ou, .inl (cO, 1, .inr (.inl (fun _ => 0)))), (od, .inl (cD, 1, .inr (.inr (.inr (.inl (fun _ => 0))))))]) (w1 := [(x, .inr (11, [.ref a1, .ref a2, .ref a3, .ref a4, .ref tt, .int 0, .ref rr, .ref cq])), (a4, .inr (4, [.int 0, .ref ed, .int 0]))]) hP hD [0, 4] [1, 2, 3, 5, 6, 7, 8, 9, 10, 11, 12, 13, 14] rfl rfl (by decide) (by decide) hk1 hFc hP1 hD1
  have hK := (hK.sub (tys' := [(cT, .int), (cO, .long), (cD, .double)]) [0, 1, 2] rfl).app hK1
  generalize H1 = H at hP hS ⊢
  have hP : va_P (dC, dI) vwCl [(a1, .inr (4, [.int 0, .ref ed, .int 0])), (a2, .inr (4, [.int 0, .ref ed, .int 0])), (a3, .inr (4, [.int 0, .ref ed, .int 0])), (tt, .inl (cT, 24, .inl (fun _ => 0))), (rr, .inr (6, [.ref t1, .ref t2, .int 0, .int 0, .long 0, .long 0])), (mo, .inr (15, [.ref b1, .ref b2, .ref b3, .ref b4, .ref b5, .int 0])), (b1, .inr (4, [.int 0, .ref ed, .int 0])), (b2, .inr (4, [.int 0, .ref ed, .int 0])), (b3, .inr (4, [.int 0, .ref ed, .int 0])), (b4, .inr (4, [.int 0, .ref ed, .int 0])), (b5, .inr (4, [.int 0, .ref ed, .int 0])), (ou, .inl (cO, 1, .inr (.inl (fun _ => 0)))), (od, .inl (cD, 1, .inr (.inr (.inr (.inl (fun _ => 0)))))), (x, .inr (11, [.ref a1, .ref a2, .ref a3, .ref a4, .ref tt, .int 0, .ref rr, .ref cq])), (a4, .inr (4, [.int 0, .ref ed, .int 0]))] H := hP
  have hD : va_D (fun q : Nat => s.heap.size ≤ q) [(a1, .inr (4, [.int 0, .ref ed, .int 0])), (a2, .inr (4, [.int 0, .ref ed, .int 0])), (a3, .inr (4, [.int 0, .ref ed, .int 0])), (tt, .inl (cT, 24, .inl (fun _ => 0))), (rr, .inr (6, [.ref t1, .ref t2, .int 0, .int 0, .long 0, .long 0])), (mo, .inr (15, [.ref b1, .ref b2, .ref b3, .ref b4, .ref b5, .int 0])), (b1, .inr (4, [.int 0, .ref ed, .int 0])), (b2, .inr (4, [.int 0, .ref ed, .int 0])), (b3, .inr (4, [.int 0, .ref ed, .int 0])), (b4, .inr (4, [.int 0, .ref ed, .int 0])), (b5, .inr (4, [.int 0, .ref ed, .int 0])), (ou, .inl (cO, 1, .inr (.inl (fun _ => 0)))), (od, .inl (cD, 1, .inr (.inr (.inr (.inl (fun _ => 0)))))), (x, .inr (11, [.ref a1, .ref a2, .ref a3, .ref a4, .ref tt, .int 0, .ref rr, .ref cq])), (a4, .inr (4, [.int 0, .ref ed, .int 0]))] := hD
  have hK : va_K (dC, dI) vwCl [(cT, .int), (cO, .long), (cD, .double)] s := hK
  refine W.widen (k := 28) (n := 304) (Nat.le_of_ble_eq_true rfl) (Nat.le_of_ble_eq_true rfl) ?_
  have hw : r_610 = 1 := hw
  subst hw
  refine lv_istore (lv' := [(6, .int 1), (5, .int 0), (4, .ref od), (3, .ref ou), (2, .ref mo), (1, .ref x), (0, .ref b)]) hx hb dL_law_1863 hl (by decide) rfl (fun ls hl => ?_)
  refine lv_aload_n hx hb dL_law_1865 rfl (lv_at hl 4 rfl) ?_
  refine lv_aload_n hx hb dL_law_1866 rfl (lv_at hl 6 rfl) ?_
  refine lv_iload hx hb dL_law_1867 (lv_at hl 1 rfl) ?_
  refine lv_iconst (v := 1) hx hb dL_law_1869 (by decide) ?_
  refine lv_iadd hx hb dL_law_1870 ?_
  refine lv_numI (v := 1) (by decide) ?_
  refine va_sld hx hb hX hbl hbA hS (by unfold vp_in; decide) dL_law_1871 ?_
  refine lv_aload_n hx hb dL_law_1872 rfl (lv_at hl 6 rfl) ?_
  refine lv_iload hx hb dL_law_1873 (lv_at hl 1 rfl) ?_
  refine lv_iconst (v := 2) hx hb dL_law_1875 (by decide) ?_
  refine lv_iadd hx hb dL_law_1876 ?_
  refine lv_numI (v := 2) (by decide) ?_
  refine va_sld hx hb hX hbl hbA hS (by unfold vp_in; decide) dL_law_1877 ?_
  refine lv_aload_n hx hb dL_law_1878 rfl (lv_at hl 6 rfl) ?_
  refine lv_iload hx hb dL_law_1879 (lv_at hl 1 rfl) ?_
  refine lv_iconst (v := 3) hx hb dL_law_1881 (by decide) ?_
  refine lv_iadd hx hb dL_law_1882 ?_
  refine lv_numI (v := 3) (by decide) ?_
  refine va_sld hx hb hX hbl hbA hS (by unfold vp_in; decide) dL_law_1883 ?_
  have hPc := hP.sub (ws' := [(mo, .inr (15, [.ref b1, .ref b2, .ref b3, .ref b4, .ref b5, .int 0])), (b4, .inr (4, [.int 0, .ref ed, .int 0]))]) [5, 9] rfl
  have hDc := hD.sub (ws' := [(mo, .inr (15, [.ref b1, .ref b2, .ref b3, .ref b4, .ref b5, .int 0])), (b4, .inr (4, [.int 0, .ref ed, .int 0]))]) [5, 9] (by decide) rfl
  have hKc := hK.sub (tys' := []) [] rfl
  have hFc := va_free (wc := [(mo, .inr (15, [.ref b1, .ref b2, .ref b3, .ref b4, .ref b5, .int 0])), (b4, .inr (4, [.int 0, .ref ed, .int 0]))]) hD hS hA [5, 9] rfl
  refine va_calli (va_runV (As := [.int (xs (Int32.toNatClampNeg 1)), .int (xs (Int32.toNatClampNeg 2)), .int (xs (Int32.toNatClampNeg 3))]) (rest := []) ⟨hx, hb, hml, hown, hts⟩ (y_setNotch l dC dI H.size mo b4 (.ref b1) (.ref b2) (.ref b3) (.ref b5) (.int 0) (.ref ed) 0 (xs (Int32.toNatClampNeg 1)) (xs (Int32.toNatClampNeg 2)) (xs (Int32.toNatClampNeg 3))) (cwV 3 hts (pw_V q1910 q1911 q1912 q49 q1913) rfl rfl rfl (by decide +kernel) ⟨(Nat.le_of_ble_eq_true rfl), (Nat.le_of_ble_eq_true rfl)⟩) ⟨fun a U g mk q => by obtain ⟨q0, q1, qP, qK, qD⟩ := q; exact ⟨q0, q1, qP, va_K.moved (u := U) (U := U.calling g mk a) (Vm.Alike.refl U.vm) qK, qD⟩, va_recv hKc hPc (ci := 15) (q0 := 0) rfl rfl, fun U hU hW => ⟨rfl, by rw [hU], by rw [hU]; exact hPc, va_K.moved hW.alike hKc, hDc.weaken (fun _ _ _ _ => trivial)⟩⟩ rfl rfl hl.1 rfl (lv_room (Nat.le_of_ble_eq_true rfl)) dL_law_1884 ⟨(Nat.le_of_ble_eq_true rfl), (Nat.le_of_ble_eq_true rfl)⟩) hS (fun q _ h => hFc q h) hFc (fun r_611 u t H1 locs ht hvm hw hB hz1 hk1 hS => ?_)
  obtain ⟨hP1, hK1, hD1⟩ := hB
  rw [ht] at hP1
  have hK1 := va_K.moved hvm.symm hK1
  obtain ⟨hP, hD⟩ := va_join (wr := [(a1, .inr (4, [.int 0, .ref ed, .int 0])), (a2, .inr (4, [.int 0, .ref ed, .int 0])), (a3, .inr (4, [.int 0, .ref ed, .int 0])), (tt, .inl (cT, 24, .inl (fun _ => 0))), (rr, .inr (6, [.ref t1, .ref t2, .int 0, .int 0, .long 0, .long 0])), (b1, .inr (4, [.int 0, .ref ed, .int 0])), (b2, .inr (4, [.int 0, .ref ed, .int 0])), (b3, .inr (4, [.int 0, .ref ed, .int 0])), (b5, .inr (4, [.int 0, .ref ed, .int 0])), (ou, .inl (cO, 1, .inr (.inl (fun _ => 0)))), (od, .inl (cD, 1, .inr (.inr (.inr (.inl (fun _ => 0)))))), (x, .inr (11, [.ref a1, .ref a2, .ref a3, .ref a4, .ref tt, .int 0, .ref rr, .ref cq])), (a4, .inr (4, [.int 0, .ref ed, .int 0]))]) (w1 := [(mo, .inr (15, [.ref b1, .ref b2, .ref b3, .ref b4, .ref b5, .int 1])), (b4, .inr (4, [.int 0, .ref ed, .int 0]))]) hP hD [5, 9] [0, 1, 2, 3, 4, 6, 7, 8, 10, 11, 12, 13, 14] rfl rfl (by decide) (by decide) hk1 hFc hP1 hD1
  have hK := (hK.sub (tys' := [(cT, .int), (cO, .long), (cD, .double)]) [0, 1, 2] rfl).app hK1
  generalize H1 = H at hP hS ⊢
  have hP : va_P (dC, dI) vwCl [(a1, .inr (4, [.int 0, .ref ed, .int 0])), (a2, .inr (4, [.int 0, .ref ed, .int 0])), (a3, .inr (4, [.int 0, .ref ed, .int 0])), (tt, .inl (cT, 24, .inl (fun _ => 0))), (rr, .inr (6, [.ref t1, .ref t2, .int 0, .int 0, .long 0, .long 0])), (b1, .inr (4, [.int 0, .ref ed, .int 0])), (b2, .inr (4, [.int 0, .ref ed, .int 0])), (b3, .inr (4, [.int 0, .ref ed, .int 0])), (b5, .inr (4, [.int 0, .ref ed, .int 0])), (ou, .inl (cO, 1, .inr (.inl (fun _ => 0)))), (od, .inl (cD, 1, .inr (.inr (.inr (.inl (fun _ => 0)))))), (x, .inr (11, [.ref a1, .ref a2, .ref a3, .ref a4, .ref tt, .int 0, .ref rr, .ref cq])), (a4, .inr (4, [.int 0, .ref ed, .int 0])), (mo, .inr (15, [.ref b1, .ref b2, .ref b3, .ref b4, .ref b5, .int 1])), (b4, .inr (4, [.int 0, .ref ed, .int 0]))] H := hP
  have hD : va_D (fun q : Nat => s.heap.size ≤ q) [(a1, .inr (4, [.int 0, .ref ed, .int 0])), (a2, .inr (4, [.int 0, .ref ed, .int 0])), (a3, .inr (4, [.int 0, .ref ed, .int 0])), (tt, .inl (cT, 24, .inl (fun _ => 0))), (rr, .inr (6, [.ref t1, .ref t2, .int 0, .int 0, .long 0, .long 0])), (b1, .inr (4, [.int 0, .ref ed, .int 0])), (b2, .inr (4, [.int 0, .ref ed, .int 0])), (b3, .inr (4, [.int 0, .ref ed, .int 0])), (b5, .inr (4, [.int 0, .ref ed, .int 0])), (ou, .inl (cO, 1, .inr (.inl (fun _ => 0)))), (od, .inl (cD, 1, .inr (.inr (.inr (.inl (fun _ => 0)))))), (x, .inr (11, [.ref a1, .ref a2, .ref a3, .ref a4, .ref tt, .int 0, .ref rr, .ref cq])), (a4, .inr (4, [.int 0, .ref ed, .int 0])), (mo, .inr (15, [.ref b1, .ref b2, .ref b3, .ref b4, .ref b5, .int 1])), (b4, .inr (4, [.int 0, .ref ed, .int 0]))] := hD
  have hK : va_K (dC, dI) vwCl [(cT, .int), (cO, .long), (cD, .double)] s := hK
  refine W.widen (k := 28) (n := 304) (Nat.le_of_ble_eq_true rfl) (Nat.le_of_ble_eq_true rfl) ?_
  have hw : r_611 = 0 := hw
  subst hw
  refine lv_istore (lv' := [(7, .int 0), (6, .int 1), (5, .int 0), (4, .ref od), (3, .ref ou), (2, .ref mo), (1, .ref x), (0, .ref b)]) hx hb dL_law_1887 hl (by decide) rfl (fun ls hl => ?_)
  refine lv_aload_n hx hb dL_law_1889 rfl (lv_at hl 5 rfl) ?_
  have hPc := hP.sub (ws' := [(mo, .inr (15, [.ref b1, .ref b2, .ref b3, .ref b4, .ref b5, .int 1]))]) [13] rfl
  have hDc := hD.sub (ws' := [(mo, .inr (15, [.ref b1, .ref b2, .ref b3, .ref b4, .ref b5, .int 1]))]) [13] (by decide) rfl
  have hKc := hK.sub (tys' := []) [] rfl
  have hFc := va_free (wc := [(mo, .inr (15, [.ref b1, .ref b2, .ref b3, .ref b4, .ref b5, .int 1]))]) hD hS hA [13] rfl
  refine va_calli (va_runV (As := []) (rest := []) ⟨hx, hb, hml, hown, hts⟩ (n_thrown l dC dI H.size mo (.ref b1) (.ref b2) (.ref b3) (.ref b4) (.ref b5) 1) (cwV 0 hts (pw_V q1244 q1245 q1246 q49 q1247) rfl rfl rfl (by decide +kernel) ⟨(Nat.le_of_ble_eq_true rfl), (Nat.le_of_ble_eq_true rfl)⟩) ⟨fun a U g mk q => by obtain ⟨q0, q1, qP, qK, qD⟩ := q; exact ⟨q0, q1, qP, va_K.moved (u := U) (U := U.calling g mk a) (Vm.Alike.refl U.vm) qK, qD⟩, va_recv hKc hPc (ci := 15) (q0 := 0) rfl rfl, fun U hU hW => ⟨rfl, by rw [hU], by rw [hU]; exact hPc, va_K.moved hW.alike hKc, hDc.weaken (fun _ _ _ _ => trivial)⟩⟩ rfl rfl hl.1 rfl (lv_room (Nat.le_of_ble_eq_true rfl)) dL_law_1890 ⟨(Nat.le_of_ble_eq_true rfl), (Nat.le_of_ble_eq_true rfl)⟩) hS (fun q _ h => hFc q h) hFc (fun r_612 u t H1 locs ht hvm hw hB hz1 hk1 hS => ?_)
  obtain ⟨hP1, hK1, hD1⟩ := hB
  rw [ht] at hP1
  have hK1 := va_K.moved hvm.symm hK1
  obtain ⟨hP, hD⟩ := va_join (wr := [(a1, .inr (4, [.int 0, .ref ed, .int 0])), (a2, .inr (4, [.int 0, .ref ed, .int 0])), (a3, .inr (4, [.int 0, .ref ed, .int 0])), (tt, .inl (cT, 24, .inl (fun _ => 0))), (rr, .inr (6, [.ref t1, .ref t2, .int 0, .int 0, .long 0, .long 0])), (b1, .inr (4, [.int 0, .ref ed, .int 0])), (b2, .inr (4, [.int 0, .ref ed, .int 0])), (b3, .inr (4, [.int 0, .ref ed, .int 0])), (b5, .inr (4, [.int 0, .ref ed, .int 0])), (ou, .inl (cO, 1, .inr (.inl (fun _ => 0)))), (od, .inl (cD, 1, .inr (.inr (.inr (.inl (fun _ => 0)))))), (x, .inr (11, [.ref a1, .ref a2, .ref a3, .ref a4, .ref tt, .int 0, .ref rr, .ref cq])), (a4, .inr (4, [.int 0, .ref ed, .int 0])), (b4, .inr (4, [.int 0, .ref ed, .int 0]))]) (w1 := [(mo, .inr (15, [.ref b1, .ref b2, .ref b3, .ref b4, .ref b5, .int 1]))]) hP hD [13] [0, 1, 2, 3, 4, 5, 6, 7, 8, 9, 10, 11, 12, 14] rfl rfl (by decide) (by decide) hk1 hFc hP1 hD1
  have hK := (hK.sub (tys' := [(cT, .int), (cO, .long), (cD, .double)]) [0, 1, 2] rfl).app hK1
  generalize H1 = H at hP hS ⊢
  have hP : va_P (dC, dI) vwCl [(a1, .inr (4, [.int 0, .ref ed, .int 0])), (a2, .inr (4, [.int 0, .ref ed, .int 0])), (a3, .inr (4, [.int 0, .ref ed, .int 0])), (tt, .inl (cT, 24, .inl (fun _ => 0))), (rr, .inr (6, [.ref t1, .ref t2, .int 0, .int 0, .long 0, .long 0])), (b1, .inr (4, [.int 0, .ref ed, .int 0])), (b2, .inr (4, [.int 0, .ref ed, .int 0])), (b3, .inr (4, [.int 0, .ref ed, .int 0])), (b5, .inr (4, [.int 0, .ref ed, .int 0])), (ou, .inl (cO, 1, .inr (.inl (fun _ => 0)))), (od, .inl (cD, 1, .inr (.inr (.inr (.inl (fun _ => 0)))))), (x, .inr (11, [.ref a1, .ref a2, .ref a3, .ref a4, .ref tt, .int 0, .ref rr, .ref cq])), (a4, .inr (4, [.int 0, .ref ed, .int 0])), (b4, .inr (4, [.int 0, .ref ed, .int 0])), (mo, .inr (15, [.ref b1, .ref b2, .ref b3, .ref b4, .ref b5, .int 1]))] H := hP
  have hD : va_D (fun q : Nat => s.heap.size ≤ q) [(a1, .inr (4, [.int 0, .ref ed, .int 0])), (a2, .inr (4, [.int 0, .ref ed, .int 0])), (a3, .inr (4, [.int 0, .ref ed, .int 0])), (tt, .inl (cT, 24, .inl (fun _ => 0))), (rr, .inr (6, [.ref t1, .ref t2, .int 0, .int 0, .long 0, .long 0])), (b1, .inr (4, [.int 0, .ref ed, .int 0])), (b2, .inr (4, [.int 0, .ref ed, .int 0])), (b3, .inr (4, [.int 0, .ref ed, .int 0])), (b5, .inr (4, [.int 0, .ref ed, .int 0])), (ou, .inl (cO, 1, .inr (.inl (fun _ => 0)))), (od, .inl (cD, 1, .inr (.inr (.inr (.inl (fun _ => 0)))))), (x, .inr (11, [.ref a1, .ref a2, .ref a3, .ref a4, .ref tt, .int 0, .ref rr, .ref cq])), (a4, .inr (4, [.int 0, .ref ed, .int 0])), (b4, .inr (4, [.int 0, .ref ed, .int 0])), (mo, .inr (15, [.ref b1, .ref b2, .ref b3, .ref b4, .ref b5, .int 1]))] := hD
  have hK : va_K (dC, dI) vwCl [(cT, .int), (cO, .long), (cD, .double)] s := hK
  refine W.widen (k := 28) (n := 304) (Nat.le_of_ble_eq_true rfl) (Nat.le_of_ble_eq_true rfl) ?_
  have hw : r_612 = 1 := hw
  subst hw
  refine lv_iload hx hb dL_law_1893 (lv_at hl 1 rfl) ?_
  refine lv_icmp_eq (tgt := 1900) hx hb dL_law_1895 (by decide) (fun c_613 => ?_) (fun c_613 => absurd (by decide) c_613)
  refine lv_iload hx hb dL_law_1900 (lv_at hl 1 rfl) ?_
  refine lv_if_ne (tgt := 1917) hx hb dL_law_1902 (by decide) (fun c_614 => ?_) (fun c_614 => absurd c_614 (by decide))
  refine lv_goto (tgt := 3072) hx hb dL_law_1917 (by decide) ?_
  refine W.widen (k := 100) (n := 1000) (Nat.le_of_ble_eq_true rfl) (Nat.le_of_ble_eq_true rfl) ?_
  exact law_tail l C0 hS (lv_sub hl [2, 7] rfl)
