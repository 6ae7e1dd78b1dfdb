set_option maxHeartbeats 4000000 in
set_option maxRecDepth 100000 in
theorem law_switch {p : Program} {e : Env} {s : State} {m : MethodId} {below : List Frame} {meth : Method} {c : Code} (l : Launch) (hl9 : l.stackTraces = false) (dC : Nat → ClassId) (dI : Nat → Nat → Nat) (ed : Nat) {b : Nat} {xs : Nat → Int32} (C0 : lw_At p s m meth c b 5 xs) (hZ : pz ed (fun q : Nat => s.heap.size ≤ q) s s.heap) (x a1 a2 a3 a4 tt rr cq t1 t2 mo b1 b2 b3 b4 b5 ou od : Nat) (cT cO cD : ClassId) {H : Heap} {locs : List Loc} (hK : va_K (dC, dI) vwCl [(cT, .int), (cO, .long), (cD, .double)] s) (hP : va_P (dC, dI) vwCl [(x, .inr (11, [.ref a1, .ref a2, .ref a3, .ref a4, .ref tt, .int 0, .ref rr, .ref cq])), (a1, .inr (4, [.int 0, .ref ed, .int 0])), (a2, .inr (4, [.int 0, .ref ed, .int 0])), (a3, .inr (4, [.int 0, .ref ed, .int 0])), (a4, .inr (4, [.int 0, .ref ed, .int 0])), (tt, .inl (cT, 24, .inl (fun _ => 0))), (rr, .inr (6, [.ref t1, .ref t2, .int 0, .int 0, .long 0, .long 0])), (mo, .inr (15, [.ref b1, .ref b2, .ref b3, .ref b4, .ref b5, .int 0])), (b1, .inr (4, [.int 0, .ref ed, .int 0])), (b2, .inr (4, [.int 0, .ref ed, .int 0])), (b3, .inr (4, [.int 0, .ref ed, .int 0])), (b4, .inr (4, [.int 0, .ref ed, .int 0])), (b5, .inr (4, [.int 0, .ref ed, .int 0])), (ou, .inl (cO, 1, .inr (.inl (fun _ => 0)))), (od, .inl (cD, 1, .inr (.inr (.inr (.inl (fun _ => 0))))))] H) (hD : va_D (fun q : Nat => s.heap.size ≤ q) [(x, .inr (11, [.ref a1, .ref a2, .ref a3, .ref a4, .ref tt, .int 0, .ref rr, .ref cq])), (a1, .inr (4, [.int 0, .ref ed, .int 0])), (a2, .inr (4, [.int 0, .ref ed, .int 0])), (a3, .inr (4, [.int 0, .ref ed, .int 0])), (a4, .inr (4, [.int 0, .ref ed, .int 0])), (tt, .inl (cT, 24, .inl (fun _ => 0))), (rr, .inr (6, [.ref t1, .ref t2, .int 0, .int 0, .long 0, .long 0])), (mo, .inr (15, [.ref b1, .ref b2, .ref b3, .ref b4, .ref b5, .int 0])), (b1, .inr (4, [.int 0, .ref ed, .int 0])), (b2, .inr (4, [.int 0, .ref ed, .int 0])), (b3, .inr (4, [.int 0, .ref ed, .int 0])), (b4, .inr (4, [.int 0, .ref ed, .int 0])), (b5, .inr (4, [.int 0, .ref ed, .int 0])), (ou, .inl (cO, 1, .inr (.inl (fun _ => 0)))), (od, .inl (cD, 1, .inr (.inr (.inr (.inl (fun _ => 0))))))]) (hS : va_S (fun q : Nat => s.heap.size ≤ q) s.heap H locs) {ls : Array Slot} (hl : lv_has ls 9 [(5, .int 0), (4, .ref od), (3, .ref ou), (2, .ref mo), (1, .ref x), (0, .ref b)]) : W p l e room_1 s m #[Value.ref b] below meth c H locs 27 298 (lw_Z below #[Value.ref b] s) (F0 m 37 ls []) := by
  have C1 := C0
  obtain ⟨hx, hb, hr, hml, hown, hts0, hX, hbl, hlocks, hgv⟩ := id C0
  have hts : ∀ w ∈ pw_all, w.before #[Value.ref b] s = true := fun w h => hts0 w (pw_tbl h)
  have hA : ∀ q : Nat, s.heap.size ≤ q → (fun q : Nat => s.heap.size ≤ q) q := fun _ h => h
  have hbA : ¬ (fun q : Nat => s.heap.size ≤ q) b := Nat.not_le.mpr hbl
  refine lv_aload_n hx hb dL_law_37 rfl (lv_at hl 5 rfl) ?_
  refine lv_iload hx hb dL_law_38 (lv_at hl 0 rfl) ?_
  refine va_sld hx hb hX hbl hbA hS (by unfold vp_in; decide) dL_law_40 ?_
  refine lv_bipush (v := 63) hx hb dL_law_41 (by decide) ?_
  refine lv_iand hx hb dL_law_43 ?_
  obtain ⟨j, hj, ej⟩ := pk_andE (xs (Int32.toNatClampNeg 0)) (m := 63) 6 (by decide)
  refine lv_numI (v := nI j) ej ?_
  by_cases hj2 : j < 46
  · rcases (show j = 0 ∨ j = 1 ∨ j = 2 ∨ j = 3 ∨ j = 4 ∨ j = 5 ∨ j = 6 ∨ j = 7 ∨ j = 8 ∨ j = 9 ∨ j = 10 ∨ j = 11 ∨ j = 12 ∨ j = 13 ∨ j = 14 ∨ j = 15 ∨ j = 16 ∨ j = 17 ∨ j = 18 ∨ j = 19 ∨ j = 20 ∨ j = 21 ∨ j = 22 ∨ j = 23 ∨ j = 24 ∨ j = 25 ∨ j = 26 ∨ j = 27 ∨ j = 28 ∨ j = 29 ∨ j = 30 ∨ j = 31 ∨ j = 32 ∨ j = 33 ∨ j = 34 ∨ j = 35 ∨ j = 36 ∨ j = 37 ∨ j = 38 ∨ j = 39 ∨ j = 40 ∨ j = 41 ∨ j = 42 ∨ j = 43 ∨ j = 44 ∨ j = 45 by omega) with rfl | rfl | rfl | rfl | rfl | rfl | rfl | rfl | rfl | rfl | rfl | rfl | rfl | rfl | rfl | rfl | rfl | rfl | rfl | rfl | rfl | rfl | rfl | rfl | rfl | rfl | rfl | rfl | rfl | rfl | rfl | rfl | rfl | rfl | rfl | rfl | rfl | rfl | rfl | rfl | rfl | rfl | rfl | rfl | rfl | rfl
    · exact lv_tableIn (off := 200) (tgt := 244) hx hb dL_law_44 (by decide) (by decide) (by rfl) (by decide) (law_case_0 l hl9 dC dI ed C1 hZ x a1 a2 a3 a4 tt rr cq t1 t2 mo b1 b2 b3 b4 b5 ou od cT cO cD hK hP hD hS hl)
    · exact lv_tableIn (off := 244) (tgt := 288) hx hb dL_law_44 (by decide) (by decide) (by rfl) (by decide) (law_case_1 l hl9 dC dI ed C1 hZ x a1 a2 a3 a4 tt rr cq t1 t2 mo b1 b2 b3 b4 b5 ou od cT cO cD hK hP hD hS hl)
    · exact lv_tableIn (off := 336) (tgt := 380) hx hb dL_law_44 (by decide) (by decide) (by rfl) (by decide) (law_case_2 l hl9 dC dI ed C1 hZ x a1 a2 a3 a4 tt rr cq t1 t2 mo b1 b2 b3 b4 b5 ou od cT cO cD hK hP hD hS hl)
    · exact lv_tableIn (off := 404) (tgt := 448) hx hb dL_law_44 (by decide) (by decide) (by rfl) (by decide) (law_case_3 l hl9 dC dI ed C1 hZ x a1 a2 a3 a4 tt rr cq t1 t2 mo b1 b2 b3 b4 b5 ou od cT cO cD hK hP hD hS hl)
    · exact lv_tableIn (off := 472) (tgt := 516) hx hb dL_law_44 (by decide) (by decide) (by rfl) (by decide) (law_case_4 l hl9 dC dI ed C1 hZ x a1 a2 a3 a4 tt rr cq t1 t2 mo b1 b2 b3 b4 b5 ou od cT cO cD hK hP hD hS hl)
    · exact lv_tableIn (off := 552) (tgt := 596) hx hb dL_law_44 (by decide) (by decide) (by rfl) (by decide) (law_case_5 l hl9 dC dI ed C1 hZ x a1 a2 a3 a4 tt rr cq t1 t2 mo b1 b2 b3 b4 b5 ou od cT cO cD hK hP hD hS hl)
    · exact lv_tableIn (off := 608) (tgt := 652) hx hb dL_law_44 (by decide) (by decide) (by rfl) (by decide) (law_case_6 l hl9 dC dI ed C1 hZ x a1 a2 a3 a4 tt rr cq t1 t2 mo b1 b2 b3 b4 b5 ou od cT cO cD hK hP hD hS hl)
    · exact lv_tableIn (off := 700) (tgt := 744) hx hb dL_law_44 (by decide) (by decide) (by rfl) (by decide) (law_case_7 l hl9 dC dI ed C1 hZ x a1 a2 a3 a4 tt rr cq t1 t2 mo b1 b2 b3 b4 b5 ou od cT cO cD hK hP hD hS hl)
    · exact lv_tableIn (off := 791) (tgt := 835) hx hb dL_law_44 (by decide) (by decide) (by rfl) (by decide) (law_case_8 l hl9 dC dI ed C1 hZ x a1 a2 a3 a4 tt rr cq t1 t2 mo b1 b2 b3 b4 b5 ou od cT cO cD hK hP hD hS hl)
    · exact lv_tableIn (off := 859) (tgt := 903) hx hb dL_law_44 (by decide) (by decide) (by rfl) (by decide) (law_case_9 l hl9 dC dI ed C1 hZ x a1 a2 a3 a4 tt rr cq t1 t2 mo b1 b2 b3 b4 b5 ou od cT cO cD hK hP hD hS hl)
    · exact lv_tableIn (off := 903) (tgt := 947) hx hb dL_law_44 (by decide) (by decide) (by rfl) (by decide) (law_case_10 l hl9 dC dI ed C1 hZ x a1 a2 a3 a4 tt rr cq t1 t2 mo b1 b2 b3 b4 b5 ou od cT cO cD hK hP hD hS hl)
    · exact lv_tableIn (off := 983) (tgt := 1027) hx hb dL_law_44 (by decide) (by decide) (by rfl) (by decide) (law_case_11 l hl9 dC dI ed C1 hZ x a1 a2 a3 a4 tt rr cq t1 t2 mo b1 b2 b3 b4 b5 ou od cT cO cD hK hP hD hS hl)
    · exact lv_tableIn (off := 1063) (tgt := 1107) hx hb dL_law_44 (by decide) (by decide) (by rfl) (by decide) (law_case_12 l hl9 dC dI ed C1 hZ x a1 a2 a3 a4 tt rr cq t1 t2 mo b1 b2 b3 b4 b5 ou od cT cO cD hK hP hD hS hl)
    · exact lv_tableIn (off := 1145) (tgt := 1189) hx hb dL_law_44 (by decide) (by decide) (by rfl) (by decide) (law_case_13 l hl9 dC dI ed C1 hZ x a1 a2 a3 a4 tt rr cq t1 t2 mo b1 b2 b3 b4 b5 ou od cT cO cD hK hP hD hS hl)
    · exact lv_tableIn (off := 1225) (tgt := 1269) hx hb dL_law_44 (by decide) (by decide) (by rfl) (by decide) (law_case_14 l hl9 dC dI ed C1 hZ x a1 a2 a3 a4 tt rr cq t1 t2 mo b1 b2 b3 b4 b5 ou od cT cO cD hK hP hD hS hl)
    · exact lv_tableIn (off := 1293) (tgt := 1337) hx hb dL_law_44 (by decide) (by decide) (by rfl) (by decide) (law_case_15 l hl9 dC dI ed C1 hZ x a1 a2 a3 a4 tt rr cq t1 t2 mo b1 b2 b3 b4 b5 ou od cT cO cD hK hP hD hS hl)
    · exact lv_tableIn (off := 1361) (tgt := 1405) hx hb dL_law_44 (by decide) (by decide) (by rfl) (by decide) (law_case_16 l hl9 dC dI ed C1 hZ x a1 a2 a3 a4 tt rr cq t1 t2 mo b1 b2 b3 b4 b5 ou od cT cO cD hK hP hD hS hl)
    · exact lv_tableIn (off := 1436) (tgt := 1480) hx hb dL_law_44 (by decide) (by decide) (by rfl) (by decide) (law_case_17 l hl9 dC dI ed C1 hZ x a1 a2 a3 a4 tt rr cq t1 t2 mo b1 b2 b3 b4 b5 ou od cT cO cD hK hP hD hS hl)
    · exact lv_tableIn (off := 1504) (tgt := 1548) hx hb dL_law_44 (by decide) (by decide) (by rfl) (by decide) (law_case_18 l hl9 dC dI ed C1 hZ x a1 a2 a3 a4 tt rr cq t1 t2 mo b1 b2 b3 b4 b5 ou od cT cO cD hK hP hD hS hl)
    · exact lv_tableIn (off := 1560) (tgt := 1604) hx hb dL_law_44 (by decide) (by decide) (by rfl) (by decide) (law_case_19 l hl9 dC dI ed C1 hZ x a1 a2 a3 a4 tt rr cq t1 t2 mo b1 b2 b3 b4 b5 ou od cT cO cD hK hP hD hS hl)
    · exact lv_tableIn (off := 1616) (tgt := 1660) hx hb dL_law_44 (by decide) (by decide) (by rfl) (by decide) (law_case_20 l hl9 dC dI ed C1 hZ x a1 a2 a3 a4 tt rr cq t1 t2 mo b1 b2 b3 b4 b5 ou od cT cO cD hK hP hD hS hl)
    · exact lv_tableIn (off := 1672) (tgt := 1716) hx hb dL_law_44 (by decide) (by decide) (by rfl) (by decide) (law_case_21 l hl9 dC dI ed C1 hZ x a1 a2 a3 a4 tt rr cq t1 t2 mo b1 b2 b3 b4 b5 ou od cT cO cD hK hP hD hS hl)
    · exact lv_tableIn (off := 1728) (tgt := 1772) hx hb dL_law_44 (by decide) (by decide) (by rfl) (by decide) (law_case_22 l hl9 dC dI ed C1 hZ x a1 a2 a3 a4 tt rr cq t1 t2 mo b1 b2 b3 b4 b5 ou od cT cO cD hK hP hD hS hl)
    · exact lv_tableIn (off := 1796) (tgt := 1840) hx hb dL_law_44 (by decide) (by decide) (by rfl) (by decide) (law_case_23 l hl9 dC dI ed C1 hZ x a1 a2 a3 a4 tt rr cq t1 t2 mo b1 b2 b3 b4 b5 ou od cT cO cD hK hP hD hS hl)
    · exact lv_tableIn (off := 1876) (tgt := 1920) hx hb dL_law_44 (by decide) (by decide) (by rfl) (by decide) (law_case_24 l hl9 dC dI ed C1 hZ x a1 a2 a3 a4 tt rr cq t1 t2 mo b1 b2 b3 b4 b5 ou od cT cO cD hK hP hD hS hl)
    · exact lv_tableIn (off := 1944) (tgt := 1988) hx hb dL_law_44 (by decide) (by decide) (by rfl) (by decide) (law_case_25 l hl9 dC dI ed C1 hZ x a1 a2 a3 a4 tt rr cq t1 t2 mo b1 b2 b3 b4 b5 ou od cT cO cD hK hP hD hS hl)
    · exact lv_tableIn (off := 2000) (tgt := 2044) hx hb dL_law_44 (by decide) (by decide) (by rfl) (by decide) (law_case_26 l hl9 dC dI ed C1 hZ x a1 a2 a3 a4 tt rr cq t1 t2 mo b1 b2 b3 b4 b5 ou od cT cO cD hK hP hD hS hl)
    · exact lv_tableIn (off := 2068) (tgt := 2112) hx hb dL_law_44 (by decide) (by decide) (by rfl) (by decide) (law_case_27 l hl9 dC dI ed C1 hZ x a1 a2 a3 a4 tt rr cq t1 t2 mo b1 b2 b3 b4 b5 ou od cT cO cD hK hP hD hS hl)
    · exact lv_tableIn (off := 2124) (tgt := 2168) hx hb dL_law_44 (by decide) (by decide) (by rfl) (by decide) (law_case_28 l hl9 dC dI ed C1 hZ x a1 a2 a3 a4 tt rr cq t1 t2 mo b1 b2 b3 b4 b5 ou od cT cO cD hK hP hD hS hl)
    · exact lv_tableIn (off := 2180) (tgt := 2224) hx hb dL_law_44 (by decide) (by decide) (by rfl) (by decide) (law_case_29 l hl9 dC dI ed C1 hZ x a1 a2 a3 a4 tt rr cq t1 t2 mo b1 b2 b3 b4 b5 ou od cT cO cD hK hP hD hS hl)
    · exact lv_tableIn (off := 2248) (tgt := 2292) hx hb dL_law_44 (by decide) (by decide) (by rfl) (by decide) (law_case_30 l hl9 dC dI ed C1 hZ x a1 a2 a3 a4 tt rr cq t1 t2 mo b1 b2 b3 b4 b5 ou od cT cO cD hK hP hD hS hl)
    · exact lv_tableIn (off := 2340) (tgt := 2384) hx hb dL_law_44 (by decide) (by decide) (by rfl) (by decide) (law_case_31 l hl9 dC dI ed C1 hZ x a1 a2 a3 a4 tt rr cq t1 t2 mo b1 b2 b3 b4 b5 ou od cT cO cD hK hP hD hS hl)
    · exact lv_tableIn (off := 2396) (tgt := 2440) hx hb dL_law_44 (by decide) (by decide) (by rfl) (by decide) (law_case_32 l hl9 dC dI ed C1 hZ x a1 a2 a3 a4 tt rr cq t1 t2 mo b1 b2 b3 b4 b5 ou od cT cO cD hK hP hD hS hl)
    · exact lv_tableIn (off := 2409) (tgt := 2453) hx hb dL_law_44 (by decide) (by decide) (by rfl) (by decide) (law_case_33 l hl9 dC dI ed C1 hZ x a1 a2 a3 a4 tt rr cq t1 t2 mo b1 b2 b3 b4 b5 ou od cT cO cD hK hP hD hS hl)
    · exact lv_tableIn (off := 2465) (tgt := 2509) hx hb dL_law_44 (by decide) (by decide) (by rfl) (by decide) (law_case_34 l hl9 dC dI ed C1 hZ x a1 a2 a3 a4 tt rr cq t1 t2 mo b1 b2 b3 b4 b5 ou od cT cO cD hK hP hD hS hl)
    · exact lv_tableIn (off := 2521) (tgt := 2565) hx hb dL_law_44 (by decide) (by decide) (by rfl) (by decide) (law_case_35 l hl9 dC dI ed C1 hZ x a1 a2 a3 a4 tt rr cq t1 t2 mo b1 b2 b3 b4 b5 ou od cT cO cD hK hP hD hS hl)
    · exact lv_tableIn (off := 2534) (tgt := 2578) hx hb dL_law_44 (by decide) (by decide) (by rfl) (by decide) (law_case_36 l hl9 dC dI ed C1 hZ x a1 a2 a3 a4 tt rr cq t1 t2 mo b1 b2 b3 b4 b5 ou od cT cO cD hK hP hD hS hl)
    · exact lv_tableIn (off := 2548) (tgt := 2592) hx hb dL_law_44 (by decide) (by decide) (by rfl) (by decide) (law_case_37 l hl9 dC dI ed C1 hZ x a1 a2 a3 a4 tt rr cq t1 t2 mo b1 b2 b3 b4 b5 ou od cT cO cD hK hP hD hS hl)
    · exact lv_tableIn (off := 2616) (tgt := 2660) hx hb dL_law_44 (by decide) (by decide) (by rfl) (by decide) (law_case_38 l hl9 dC dI ed C1 hZ x a1 a2 a3 a4 tt rr cq t1 t2 mo b1 b2 b3 b4 b5 ou od cT cO cD hK hP hD hS hl)
    · exact lv_tableIn (off := 2671) (tgt := 2715) hx hb dL_law_44 (by decide) (by decide) (by rfl) (by decide) (law_case_39 l hl9 dC dI ed C1 hZ x a1 a2 a3 a4 tt rr cq t1 t2 mo b1 b2 b3 b4 b5 ou od cT cO cD hK hP hD hS hl)
    · exact lv_tableIn (off := 2727) (tgt := 2771) hx hb dL_law_44 (by decide) (by decide) (by rfl) (by decide) (law_case_40 l hl9 dC dI ed C1 hZ x a1 a2 a3 a4 tt rr cq t1 t2 mo b1 b2 b3 b4 b5 ou od cT cO cD hK hP hD hS hl)
    · exact lv_tableIn (off := 2783) (tgt := 2827) hx hb dL_law_44 (by decide) (by decide) (by rfl) (by decide) (law_case_41 l hl9 dC dI ed C1 hZ x a1 a2 a3 a4 tt rr cq t1 t2 mo b1 b2 b3 b4 b5 ou od cT cO cD hK hP hD hS hl)
    · exact lv_tableIn (off := 2846) (tgt := 2890) hx hb dL_law_44 (by decide) (by decide) (by rfl) (by decide) (law_case_42 l hl9 dC dI ed C1 hZ x a1 a2 a3 a4 tt rr cq t1 t2 mo b1 b2 b3 b4 b5 ou od cT cO cD hK hP hD hS hl)
    · exact lv_tableIn (off := 2924) (tgt := 2968) hx hb dL_law_44 (by decide) (by decide) (by rfl) (by decide) (law_case_43 l hl9 dC dI ed C1 hZ x a1 a2 a3 a4 tt rr cq t1 t2 mo b1 b2 b3 b4 b5 ou od cT cO cD hK hP hD hS hl)
    · exact lv_tableIn (off := 3001) (tgt := 3045) hx hb dL_law_44 (by decide) (by decide) (by rfl) (by decide) (law_case_44 l hl9 dC dI ed C1 hZ x a1 a2 a3 a4 tt rr cq t1 t2 mo b1 b2 b3 b4 b5 ou od cT cO cD hK hP hD hS hl)
    · exact lv_tableIn (off := 3015) (tgt := 3059) hx hb dL_law_44 (by decide) (by decide) (by rfl) (by decide) (law_case_45 l hl9 dC dI ed C1 hZ x a1 a2 a3 a4 tt rr cq t1 t2 mo b1 b2 b3 b4 b5 ou od cT cO cD hK hP hD hS hl)
  · refine lv_tableOut (tgt := 3072) hx hb dL_law_44 (Or.inr (by rw [nI_toInt (by omega)]; omega)) (by decide) ?_
    refine W.widen (k := 100) (n := 1000) (Nat.le_of_ble_eq_true rfl) (Nat.le_of_ble_eq_true rfl) ?_
    exact law_tail l C1 hS (lv_sub hl [0, 5] rfl)
set_option maxHeartbeats 4000000 in
set_option maxRecDepth 100000 in
theorem short_start {p : Program} {e : Env} {s : State} {m : MethodId} {below : List Frame} {meth : Method} {c : Code} (l : Launch) (hl9 : l.stackTraces = false) {b L : Nat} {xs : Nat → Int32} (hL : L ≤ 5) (C0 : lw_At p s m meth c b L xs) : W p l e room_1 s m #[Value.ref b] below meth c s.heap [] 0 0 (lw_Z below #[Value.ref b] s) (entryFrame m ([Value.ref b] : List Value).toArray 9) := by
  obtain ⟨hx, hb, hr, hml, hown, hts0, hX, hbl, hlocks, hgv⟩ := id C0
  have hts : ∀ w ∈ pw_all, w.before #[Value.ref b] s = true := fun w h => hts0 w (pw_tbl h)
  have hA : ∀ q : Nat, s.heap.size ≤ q → (fun q : Nat => s.heap.size ≤ q) q := fun _ h => h
  have hbA : ¬ (fun q : Nat => s.heap.size ≤ q) b := Nat.not_le.mpr hbl
  obtain ⟨ed, hZ⟩ := pz_start hts0 hgv
  obtain ⟨c0, iS0, hKn0⟩ := u_known (C := RJ0) (T := TJ0) (N := 4) (n := 4) hts0 (by decide +kernel) (hts0 (Cond.instantiable RJ0 4) (List.mem_of_getElem? (i := 1785) (by decide +kernel)))
  obtain ⟨c1, iS1, hKn1⟩ := u_known (C := RJ4) (T := TJ4) (N := 4) (n := 4) hts0 (by decide +kernel) (hts0 (Cond.instantiable RJ4 4) (List.mem_of_getElem? (i := 1642) (by decide +kernel)))
  obtain ⟨c2, iS2, hKn2⟩ := u_known (C := RJ6) (T := TJ6) (N := 1) (n := 1) hts0 (by decide +kernel) (hts0 (Cond.instantiable RJ6 1) (List.mem_of_getElem? (i := 1978) (by decide +kernel)))
  obtain ⟨c3, iS3, hKn3⟩ := u_known (C := RJx35411) (T := TJx35411) (N := 4) (n := 4) hts0 (by decide +kernel) (hts0 (Cond.instantiable RJx35411 4) (List.mem_of_getElem? (i := 1527) (by decide +kernel)))
  obtain ⟨c4, iS4, hKn4⟩ := u_known (C := RJx4a65c) (T := TJx4a65c) (N := 3) (n := 3) hts0 (by decide +kernel) (hts0 (Cond.instantiable RJx4a65c 3) (List.mem_of_getElem? (i := 89) (by decide +kernel)))
  obtain ⟨c5, iS5, hKn5⟩ := u_known (C := RX0) (T := TX0) (N := 11) (n := 11) hts0 (by decide +kernel) (hts0 (Cond.instantiable RX0 11) (List.mem_of_getElem? (i := 145) (by decide +kernel)))
  obtain ⟨c6, iS6, hKn6⟩ := u_known (C := RX1) (T := TX1) (N := 6) (n := 6) hts0 (by decide +kernel) (hts0 (Cond.instantiable RX1 6) (List.mem_of_getElem? (i := 118) (by decide +kernel)))
  obtain ⟨c7, iS7, hKn7⟩ := u_known (C := RX2) (T := TX2) (N := 15) (n := 15) hts0 (by decide +kernel) (hts0 (Cond.instantiable RX2 15) (List.mem_of_getElem? (i := 768) (by decide +kernel)))
  obtain ⟨c8, iS8, hKn8⟩ := u_known (C := RX3) (T := TX3) (N := 5) (n := 5) hts0 (by decide +kernel) (hts0 (Cond.instantiable RX3 5) (List.mem_of_getElem? (i := 661) (by decide +kernel)))
  obtain ⟨c9, iS9, hKn9⟩ := u_known (C := RX4) (T := TX4) (N := 2) (n := 2) hts0 (by decide +kernel) (hts0 (Cond.instantiable RX4 2) (List.mem_of_getElem? (i := 720) (by decide +kernel)))
  obtain ⟨c10, iS10, hKn10⟩ := u_known (C := RX5) (T := TX5) (N := 7) (n := 7) hts0 (by decide +kernel) (hts0 (Cond.instantiable RX5 7) (List.mem_of_getElem? (i := 393) (by decide +kernel)))
  obtain ⟨c11, iS11, hKn11⟩ := u_known (C := RX6) (T := TX6) (N := 8) (n := 8) hts0 (by decide +kernel) (hts0 (Cond.instantiable RX6 8) (List.mem_of_getElem? (i := 81) (by decide +kernel)))
  obtain ⟨c12, iS12, hKn12⟩ := u_known (C := RX7) (T := TX7) (N := 4) (n := 4) hts0 (by decide +kernel) (hts0 (Cond.instantiable RX7 4) (List.mem_of_getElem? (i := 1336) (by decide +kernel)))
  obtain ⟨c13, iS13, hKn13⟩ := u_known (C := RX8) (T := TX8) (N := 12) (n := 12) hts0 (by decide +kernel) (hts0 (Cond.instantiable RX8 12) (List.mem_of_getElem? (i := 1457) (by decide +kernel)))
  obtain ⟨c14, iS14, hKn14⟩ := u_known (C := RX9) (T := TX9) (N := 6) (n := 6) hts0 (by decide +kernel) (hts0 (Cond.instantiable RX9 6) (List.mem_of_getElem? (i := 1258) (by decide +kernel)))
  obtain ⟨c15, iS15, hKn15⟩ := u_known (C := RX10) (T := TX10) (N := 6) (n := 6) hts0 (by decide +kernel) (hts0 (Cond.instantiable RX10 6) (List.mem_of_getElem? (i := 1218) (by decide +kernel)))
  obtain ⟨dC, dI, hKc⟩ : ∃ (dC : Nat → ClassId) (dI : Nat → Nat → Nat), ∀ (k : Nat) (q : vw_C), vwCl[k]? = some q → u_Kn s q.1 q.2.1 q.2.2 (dC k) (dI k) := by
    refine ⟨fun k => if k = 0 then c0 else if k = 1 then c1 else if k = 2 then c2 else if k = 3 then c3 else if k = 4 then c4 else if k = 5 then c5 else if k = 6 then c6 else if k = 7 then c7 else if k = 8 then c8 else if k = 9 then c9 else if k = 10 then c10 else if k = 11 then c11 else if k = 12 then c12 else if k = 13 then c13 else if k = 14 then c14 else c15, fun k => if k = 0 then iS0 else if k = 1 then iS1 else if k = 2 then iS2 else if k = 3 then iS3 else if k = 4 then iS4 else if k = 5 then iS5 else if k = 6 then iS6 else if k = 7 then iS7 else if k = 8 then iS8 else if k = 9 then iS9 else if k = 10 then iS10 else if k = 11 then iS11 else if k = 12 then iS12 else if k = 13 then iS13 else if k = 14 then iS14 else iS15, ?_⟩
    intro k q hq
    match k, hq with
    | 0, hq => cases hq; exact hKn0
    | 1, hq => cases hq; exact hKn1
    | 2, hq => cases hq; exact hKn2
    | 3, hq => cases hq; exact hKn3
    | 4, hq => cases hq; exact hKn4
    | 5, hq => cases hq; exact hKn5
    | 6, hq => cases hq; exact hKn6
    | 7, hq => cases hq; exact hKn7
    | 8, hq => cases hq; exact hKn8
    | 9, hq => cases hq; exact hKn9
    | 10, hq => cases hq; exact hKn10
    | 11, hq => cases hq; exact hKn11
    | 12, hq => cases hq; exact hKn12
    | 13, hq => cases hq; exact hKn13
    | 14, hq => cases hq; exact hKn14
    | 15, hq => cases hq; exact hKn15
    | k + 16, hq => simp [vwCl] at hq
  have hS : va_S (fun q : Nat => s.heap.size ≤ q) s.heap s.heap [] := va_S.rf
  have hK : va_K (dC, dI) vwCl [] s := ⟨hKc, fun k q h => by simp at h⟩
  have hP : va_P (dC, dI) vwCl [] s.heap := fun k q h => by simp at h
  have hD : va_D (fun q : Nat => s.heap.size ≤ q) [] := ⟨fun i j p q h => by simp at h, fun k q h => by simp at h⟩
  have hl := lv_entry ([.ref b]) (n := 9) (Nat.le_of_ble_eq_true rfl)
  rw [lg_entry_eq]
  generalize (lg_sl ([.ref b]) ++ List.replicate (9 - (lg_sl ([.ref b])).length) Slot.unset).toArray = ls at hl ⊢
  have hl : lv_has ls 9 [(0, .ref b)] := hl
  refine va_new (ci := 11) (fs := [.null, .null, .null, .null, .null, .int 0, .null, .null]) (C := RX6) (T := TX6) (N := 8) hx hb hts inX6 tyX6 tyX6_ok hown (hts _ q80) (hts _ q81) (hts _ q43) hK hP hD hS hA rfl (fun j hj => by rcases (show j = 0 ∨ j = 1 ∨ j = 2 ∨ j = 3 ∨ j = 4 ∨ j = 5 ∨ j = 6 ∨ j = 7 by omega) with rfl | rfl | rfl | rfl | rfl | rfl | rfl | rfl <;> rfl) (Nat.le_of_ble_eq_true rfl) (Nat.le_of_ble_eq_true rfl) dL_law_0 (fun q_738 H hP hD hS => ?_)
  have hP : va_P (dC, dI) vwCl [(q_738, .inr (11, [.null, .null, .null, .null, .null, .int 0, .null, .null]))] H := hP
  have hD : va_D (fun q : Nat => s.heap.size ≤ q) [(q_738, .inr (11, [.null, .null, .null, .null, .null, .int 0, .null, .null]))] := hD
  refine W.widen (k := 1) (n := 8) (Nat.le_of_ble_eq_true rfl) (Nat.le_of_ble_eq_true rfl) ?_
  refine lv_dup hx hb dL_law_3 rfl ?_
  have hPc := hP.sub (ws' := [(q_738, .inr (11, [.null, .null, .null, .null, .null, .int 0, .null, .null]))]) [0] rfl
  have hDc := hD.sub (ws' := [(q_738, .inr (11, [.null, .null, .null, .null, .null, .int 0, .null, .null]))]) [0] (by decide) rfl
  have hKc := hK.sub (tys' := []) [] rfl
  have hFc := va_free (wc := [(q_738, .inr (11, [.null, .null, .null, .null, .null, .int 0, .null, .null]))]) hD hS hA [0] rfl
  refine va_callv (va_runI (As := []) (rest := [.ref q_738]) ⟨hx, hb, hml, hown, hts⟩ (m_hallInit l dC dI H.size ed q_738) (cwI 0 hts (pw_c q84) rfl rfl rfl (hts _ q43) (hts _ q82) (hts _ q83) rfl (by decide +kernel) ⟨(Nat.le_of_ble_eq_true rfl), (Nat.le_of_ble_eq_true rfl)⟩) ⟨fun a U g mk q => by obtain ⟨q0, q1, qP, qK, qD, qZ⟩ := q; exact ⟨q0, q1, qP, va_K.moved (u := U) (U := U.calling g mk a) (Vm.Alike.refl U.vm) qK, qD, qZ.same rfl⟩, fun U hU hW => ⟨rfl, by rw [hU], by rw [hU]; exact hPc, va_K.moved hW.alike hKc, hDc.weaken (fun _ _ _ _ => trivial), hZ.call hS hFc hU hW⟩⟩ rfl rfl hl.1 rfl (lv_room (Nat.le_of_ble_eq_true rfl)) dL_law_4 ⟨(Nat.le_of_ble_eq_true rfl), (Nat.le_of_ble_eq_true rfl)⟩) hS (fun q _ h => hFc q h) hFc (fun u t H1 locs ht hvm hw hB hz1 hk1 hS => ?_)
  obtain ⟨a1_740, a2_741, a3_742, a4_743, tt_744, rr_745, cq_746, t1_747, t2_748, cT_749, hP1, hK1, hD1⟩ := hB
  rw [ht] at hP1
  have hK1 := va_K.moved hvm.symm hK1
  obtain ⟨hP, hD⟩ := va_join (wr := []) (w1 := [(q_738, .inr (11, [.ref a1_740, .ref a2_741, .ref a3_742, .ref a4_743, .ref tt_744, .int 0, .ref rr_745, .ref cq_746])), (a1_740, .inr (4, [.int 0, .ref ed, .int 0])), (a2_741, .inr (4, [.int 0, .ref ed, .int 0])), (a3_742, .inr (4, [.int 0, .ref ed, .int 0])), (a4_743, .inr (4, [.int 0, .ref ed, .int 0])), (tt_744, .inl (cT_749, 24, .inl (fun _ => 0))), (rr_745, .inr (6, [.ref t1_747, .ref t2_748, .int 0, .int 0, .long 0, .long 0]))]) hP hD [0] [] rfl rfl (by decide) (by decide) hk1 hFc hP1 hD1
  have hK := (hK.sub (tys' := []) [] rfl).app hK1
  generalize H1 = H at hP hS ⊢
  have hP : va_P (dC, dI) vwCl [(q_738, .inr (11, [.ref a1_740, .ref a2_741, .ref a3_742, .ref a4_743, .ref tt_744, .int 0, .ref rr_745, .ref cq_746])), (a1_740, .inr (4, [.int 0, .ref ed, .int 0])), (a2_741, .inr (4, [.int 0, .ref ed, .int 0])), (a3_742, .inr (4, [.int 0, .ref ed, .int 0])), (a4_743, .inr (4, [.int 0, .ref ed, .int 0])), (tt_744, .inl (cT_749, 24, .inl (fun _ => 0))), (rr_745, .inr (6, [.ref t1_747, .ref t2_748, .int 0, .int 0, .long 0, .long 0]))] H := hP
  have hD : va_D (fun q : Nat => s.heap.size ≤ q) [(q_738, .inr (11, [.ref a1_740, .ref a2_741, .ref a3_742, .ref a4_743, .ref tt_744, .int 0, .ref rr_745, .ref cq_746])), (a1_740, .inr (4, [.int 0, .ref ed, .int 0])), (a2_741, .inr (4, [.int 0, .ref ed, .int 0])), (a3_742, .inr (4, [.int 0, .ref ed, .int 0])), (a4_743, .inr (4, [.int 0, .ref ed, .int 0])), (tt_744, .inl (cT_749, 24, .inl (fun _ => 0))), (rr_745, .inr (6, [.ref t1_747, .ref t2_748, .int 0, .int 0, .long 0, .long 0]))] := hD
  have hK : va_K (dC, dI) vwCl [(cT_749, .int)] s := hK
  refine W.widen (k := 19) (n := 275) (Nat.le_of_ble_eq_true rfl) (Nat.le_of_ble_eq_true rfl) ?_
  refine lv_astore_n (lv' := [(1, .ref q_738), (0, .ref b)]) hx hb dL_law_7 rfl hl (by decide) rfl (fun ls hl => ?_)
  refine va_new (ci := 15) (fs := [.null, .null, .null, .null, .null, .int 0]) (C := RX10) (T := TX10) (N := 6) hx hb hts inX10 tyX10 tyX10_ok hown (hts _ q1217) (hts _ q1218) (hts _ q49) hK hP hD hS hA rfl (fun j hj => by rcases (show j = 0 ∨ j = 1 ∨ j = 2 ∨ j = 3 ∨ j = 4 ∨ j = 5 by omega) with rfl | rfl | rfl | rfl | rfl | rfl <;> rfl) (Nat.le_of_ble_eq_true rfl) (Nat.le_of_ble_eq_true rfl) dL_law_8 (fun q_750 H hP hD hS => ?_)
  have hP : va_P (dC, dI) vwCl [(q_738, .inr (11, [.ref a1_740, .ref a2_741, .ref a3_742, .ref a4_743, .ref tt_744, .int 0, .ref rr_745, .ref cq_746])), (a1_740, .inr (4, [.int 0, .ref ed, .int 0])), (a2_741, .inr (4, [.int 0, .ref ed, .int 0])), (a3_742, .inr (4, [.int 0, .ref ed, .int 0])), (a4_743, .inr (4, [.int 0, .ref ed, .int 0])), (tt_744, .inl (cT_749, 24, .inl (fun _ => 0))), (rr_745, .inr (6, [.ref t1_747, .ref t2_748, .int 0, .int 0, .long 0, .long 0])), (q_750, .inr (15, [.null, .null, .null, .null, .null, .int 0]))] H := hP
  have hD : va_D (fun q : Nat => s.heap.size ≤ q) [(q_738, .inr (11, [.ref a1_740, .ref a2_741, .ref a3_742, .ref a4_743, .ref tt_744, .int 0, .ref rr_745, .ref cq_746])), (a1_740, .inr (4, [.int 0, .ref ed, .int 0])), (a2_741, .inr (4, [.int 0, .ref ed, .int 0])), (a3_742, .inr (4, [.int 0, .ref ed, .int 0])), (a4_743, .inr (4, [.int 0, .ref ed, .int 0])), (tt_744, .inl (cT_749, 24, .inl (fun _ => 0))), (rr_745, .inr (6, [.ref t1_747, .ref t2_748, .int 0, .int 0, .long 0, .long 0])), (q_750, .inr (15, [.null, .null, .null, .null, .null, .int 0]))] := hD
  refine W.widen (k := 20) (n := 281) (Nat.le_of_ble_eq_true rfl) (Nat.le_of_ble_eq_true rfl) ?_
  refine lv_dup hx hb dL_law_11 rfl ?_
  have hPc := hP.sub (ws' := [(q_750, .inr (15, [.null, .null, .null, .null, .null, .int 0]))]) [7] rfl
  have hDc := hD.sub (ws' := [(q_750, .inr (15, [.null, .null, .null, .null, .null, .int 0]))]) [7] (by decide) rfl
  have hKc := hK.sub (tys' := []) [] rfl
  have hFc := va_free (wc := [(q_750, .inr (15, [.null, .null, .null, .null, .null, .int 0]))]) hD hS hA [7] rfl
  refine va_callv (va_runI (As := []) (rest := [.ref q_750]) ⟨hx, hb, hml, hown, hts⟩ (m_modelInit l dC dI H.size ed q_750) (cwI 0 hts (pw_c q1221) rfl rfl rfl (hts _ q49) (hts _ q1219) (hts _ q1220) rfl (by decide +kernel) ⟨(Nat.le_of_ble_eq_true rfl), (Nat.le_of_ble_eq_true rfl)⟩) ⟨fun a U g mk q => by obtain ⟨q0, q1, qP, qK, qD, qZ⟩ := q; exact ⟨q0, q1, qP, va_K.moved (u := U) (U := U.calling g mk a) (Vm.Alike.refl U.vm) qK, qD, qZ.same rfl⟩, fun U hU hW => ⟨rfl, by rw [hU], by rw [hU]; exact hPc, va_K.moved hW.alike hKc, hDc.weaken (fun _ _ _ _ => trivial), hZ.call hS hFc hU hW⟩⟩ rfl rfl hl.1 rfl (lv_room (Nat.le_of_ble_eq_true rfl)) dL_law_12 ⟨(Nat.le_of_ble_eq_true rfl), (Nat.le_of_ble_eq_true rfl)⟩) hS (fun q _ h => hFc q h) hFc (fun u t H1 locs ht hvm hw hB hz1 hk1 hS => ?_)
  obtain ⟨b1_752, b2_753, b3_754, b4_755, b5_756, hP1, hK1, hD1⟩ := hB
  rw [ht] at hP1
  have hK1 := va_K.moved hvm.symm hK1
  obtain ⟨hP, hD⟩ := va_join (wr := [(q_738, .inr (11, [.ref a1_740, .ref a2_741, .ref a3_742, .ref a4_743, .ref tt_744, .int 0, .ref rr_745, .ref cq_746])), (a1_740, .inr (4, [.int 0, .ref ed, .int 0])), (a2_741, .inr (4, [.int 0, .ref ed, .int 0])), (a3_742, .inr (4, [.int 0, .ref ed, .int 0])), (a4_743, .inr (4, [.int 0, .ref ed, .int 0])), (tt_744, .inl (cT_749, 24, .inl (fun _ => 0))), (rr_745, .inr (6, [.ref t1_747, .ref t2_748, .int 0, .int 0, .long 0, .long 0]))]) (w1 := [(q_750, .inr (15, [.ref b1_752, .ref b2_753, .ref b3_754, .ref b4_755, .ref b5_756, .int 0])), (b1_752, .inr (4, [.int 0, .ref ed, .int 0])), (b2_753, .inr (4, [.int 0, .ref ed, .int 0])), (b3_754, .inr (4, [.int 0, .ref ed, .int 0])), (b4_755, .inr (4, [.int 0, .ref ed, .int 0])), (b5_756, .inr (4, [.int 0, .ref ed, .int 0]))]) hP hD [7] [0, 1, 2, 3, 4, 5, 6] rfl rfl (by decide) (by decide) hk1 hFc hP1 hD1
  have hK := (hK.sub (tys' := [(cT_749, .int)]) [0] rfl).app hK1
  generalize H1 = H at hP hS ⊢
  have hP : va_P (dC, dI) vwCl [(q_738, .inr (11, [.ref a1_740, .ref a2_741, .ref a3_742, .ref a4_743, .ref tt_744, .int 0, .ref rr_745, .ref cq_746])), (a1_740, .inr (4, [.int 0, .ref ed, .int 0])), (a2_741, .inr (4, [.int 0, .ref ed, .int 0])), (a3_742, .inr (4, [.int 0, .ref ed, .int 0])), (a4_743, .inr (4, [.int 0, .ref ed, .int 0])), (tt_744, .inl (cT_749, 24, .inl (fun _ => 0))), (rr_745, .inr (6, [.ref t1_747, .ref t2_748, .int 0, .int 0, .long 0, .long 0])), (q_750, .inr (15, [.ref b1_752, .ref b2_753, .ref b3_754, .ref b4_755, .ref b5_756, .int 0])), (b1_752, .inr (4, [.int 0, .ref ed, .int 0])), (b2_753, .inr (4, [.int 0, .ref ed, .int 0])), (b3_754, .inr (4, [.int 0, .ref ed, .int 0])), (b4_755, .inr (4, [.int 0, .ref ed, .int 0])), (b5_756, .inr (4, [.int 0, .ref ed, .int 0]))] H := hP
  have hD : va_D (fun q : Nat => s.heap.size ≤ q) [(q_738, .inr (11, [.ref a1_740, .ref a2_741, .ref a3_742, .ref a4_743, .ref tt_744, .int 0, .ref rr_745, .ref cq_746])), (a1_740, .inr (4, [.int 0, .ref ed, .int 0])), (a2_741, .inr (4, [.int 0, .ref ed, .int 0])), (a3_742, .inr (4, [.int 0, .ref ed, .int 0])), (a4_743, .inr (4, [.int 0, .ref ed, .int 0])), (tt_744, .inl (cT_749, 24, .inl (fun _ => 0))), (rr_745, .inr (6, [.ref t1_747, .ref t2_748, .int 0, .int 0, .long 0, .long 0])), (q_750, .inr (15, [.ref b1_752, .ref b2_753, .ref b3_754, .ref b4_755, .ref b5_756, .int 0])), (b1_752, .inr (4, [.int 0, .ref ed, .int 0])), (b2_753, .inr (4, [.int 0, .ref ed, .int 0])), (b3_754, .inr (4, [.int 0, .ref ed, .int 0])), (b4_755, .inr (4, [.int 0, .ref ed, .int 0])), (b5_756, .inr (4, [.int 0, .ref ed, .int 0]))] := hD
  have hK : va_K (dC, dI) vwCl [(cT_749, .int)] s := hK
  refine W.widen (k := 25) (n := 296) (Nat.le_of_ble_eq_true rfl) (Nat.le_of_ble_eq_true rfl) ?_
  refine lv_astore_n (lv' := [(2, .ref q_750), (1, .ref q_738), (0, .ref b)]) hx hb dL_law_15 rfl hl (by decide) rfl (fun ls hl => ?_)
  refine lv_iconst (v := 1) hx hb dL_law_16 (by decide) ?_
  refine va_newa (atype := .long) (N' := 1) (a0 := (1, .inr (.inl (fun _ => 0)))) (ty := .long) (n := 1) hx hb (hts _ q192) rfl hK hP hD hS hA (fun _ => rfl) (by decide) (by decide) (Nat.le_of_ble_eq_true rfl) (Nat.le_of_ble_eq_true rfl) (Nat.le_of_ble_eq_true rfl) dL_law_17 (fun q_757 cA_758 H hK hP hD hS => ?_)
  have hP : va_P (dC, dI) vwCl [(q_738, .inr (11, [.ref a1_740, .ref a2_741, .ref a3_742, .ref a4_743, .ref tt_744, .int 0, .ref rr_745, .ref cq_746])), (a1_740, .inr (4, [.int 0, .ref ed, .int 0])), (a2_741, .inr (4, [.int 0, .ref ed, .int 0])), (a3_742, .inr (4, [.int 0, .ref ed, .int 0])), (a4_743, .inr (4, [.int 0, .ref ed, .int 0])), (tt_744, .inl (cT_749, 24, .inl (fun _ => 0))), (rr_745, .inr (6, [.ref t1_747, .ref t2_748, .int 0, .int 0, .long 0, .long 0])), (q_750, .inr (15, [.ref b1_752, .ref b2_753, .ref b3_754, .ref b4_755, .ref b5_756, .int 0])), (b1_752, .inr (4, [.int 0, .ref ed, .int 0])), (b2_753, .inr (4, [.int 0, .ref ed, .int 0])), (b3_754, .inr (4, [.int 0, .ref ed, .int 0])), (b4_755, .inr (4, [.int 0, .ref ed, .int 0])), (b5_756, .inr (4, [.int 0, .ref ed, .int 0])), (q_757, .inl (cA_758, 1, .inr (.inl (fun _ => 0))))] H := hP
  have hD : va_D (fun q : Nat => s.heap.size ≤ q) [(q_738, .inr (11, [.ref a1_740, .ref a2_741, .ref a3_742, .ref a4_743, .ref tt_744, .int 0, .ref rr_745, .ref cq_746])), (a1_740, .inr (4, [.int 0, .ref ed, .int 0])), (a2_741, .inr (4, [.int 0, .ref ed, .int 0])), (a3_742, .inr (4, [.int 0, .ref ed, .int 0])), (a4_743, .inr (4, [.int 0, .ref ed, .int 0])), (tt_744, .inl (cT_749, 24, .inl (fun _ => 0))), (rr_745, .inr (6, [.ref t1_747, .ref t2_748, .int 0, .int 0, .long 0, .long 0])), (q_750, .inr (15, [.ref b1_752, .ref b2_753, .ref b3_754, .ref b4_755, .ref b5_756, .int 0])), (b1_752, .inr (4, [.int 0, .ref ed, .int 0])), (b2_753, .inr (4, [.int 0, .ref ed, .int 0])), (b3_754, .inr (4, [.int 0, .ref ed, .int 0])), (b4_755, .inr (4, [.int 0, .ref ed, .int 0])), (b5_756, .inr (4, [.int 0, .ref ed, .int 0])), (q_757, .inl (cA_758, 1, .inr (.inl (fun _ => 0))))] := hD
  have hK : va_K (dC, dI) vwCl [(cT_749, .int), (cA_758, .long)] s := hK
  refine W.widen (k := 26) (n := 297) (Nat.le_of_ble_eq_true rfl) (Nat.le_of_ble_eq_true rfl) ?_
  refine lv_astore_n (lv' := [(3, .ref q_757), (2, .ref q_750), (1, .ref q_738), (0, .ref b)]) hx hb dL_law_19 rfl hl (by decide) rfl (fun ls hl => ?_)
  refine lv_iconst (v := 1) hx hb dL_law_20 (by decide) ?_
  refine va_newa (atype := .double) (N' := 1) (a0 := (1, .inr (.inr (.inr (.inl (fun _ => 0)))))) (ty := .double) (n := 1) hx hb (hts _ q2107) rfl hK hP hD hS hA (fun _ => rfl) (by decide) (by decide) (Nat.le_of_ble_eq_true rfl) (Nat.le_of_ble_eq_true rfl) (Nat.le_of_ble_eq_true rfl) dL_law_21 (fun q_759 cA_760 H hK hP hD hS => ?_)
  have hP : va_P (dC, dI) vwCl [(q_738, .inr (11, [.ref a1_740, .ref a2_741, .ref a3_742, .ref a4_743, .ref tt_744, .int 0, .ref rr_745, .ref cq_746])), (a1_740, .inr (4, [.int 0, .ref ed, .int 0])), (a2_741, .inr (4, [.int 0, .ref ed, .int 0])), (a3_742, .inr (4, [.int 0, .ref ed, .int 0])), (a4_743, .inr (4, [.int 0, .ref ed, .int 0])), (tt_744, .inl (cT_749, 24, .inl (fun _ => 0))), (rr_745, .inr (6, [.ref t1_747, .ref t2_748, .int 0, .int 0, .long 0, .long 0])), (q_750, .inr (15, [.ref b1_752, .ref b2_753, .ref b3_754, .ref b4_755, .ref b5_756, .int 0])), (b1_752, .inr (4, [.int 0, .ref ed, .int 0])), (b2_753, .inr (4, [.int 0, .ref ed, .int 0])), (b3_754, .inr (4, [.int 0, .ref ed, .int 0])), (b4_755, .inr (4, [.int 0, .ref ed, .int 0])), (b5_756, .inr (4, [.int 0, .ref ed, .int 0])), (q_757, .inl (cA_758, 1, .inr (.inl (fun _ => 0)))), (q_759, .inl (cA_760, 1, .inr (.inr (.inr (.inl (fun _ => 0))))))] H := hP
  have hD : va_D (fun q : Nat => s.heap.size ≤ q) [(q_738, .inr (11, [.ref a1_740, .ref a2_741, .ref a3_742, .ref a4_743, .ref tt_744, .int 0, .ref rr_745, .ref cq_746])), (a1_740, .inr (4, [.int 0, .ref ed, .int 0])), (a2_741, .inr (4, [.int 0, .ref ed, .int 0])), (a3_742, .inr (4, [.int 0, .ref ed, .int 0])), (a4_743, .inr (4, [.int 0, .ref ed, .int 0])), (tt_744, .inl (cT_749, 24, .inl (fun _ => 0))), (rr_745, .inr (6, [.ref t1_747, .ref t2_748, .int 0, .int 0, .long 0, .long 0])), (q_750, .inr (15, [.ref b1_752, .ref b2_753, .ref b3_754, .ref b4_755, .ref b5_756, .int 0])), (b1_752, .inr (4, [.int 0, .ref ed, .int 0])), (b2_753, .inr (4, [.int 0, .ref ed, .int 0])), (b3_754, .inr (4, [.int 0, .ref ed, .int 0])), (b4_755, .inr (4, [.int 0, .ref ed, .int 0])), (b5_756, .inr (4, [.int 0, .ref ed, .int 0])), (q_757, .inl (cA_758, 1, .inr (.inl (fun _ => 0)))), (q_759, .inl (cA_760, 1, .inr (.inr (.inr (.inl (fun _ => 0))))))] := hD
  have hK : va_K (dC, dI) vwCl [(cT_749, .int), (cA_758, .long), (cA_760, .double)] s := hK
  refine W.widen (k := 27) (n := 298) (Nat.le_of_ble_eq_true rfl) (Nat.le_of_ble_eq_true rfl) ?_
  refine lv_astore (lv' := [(4, .ref q_759), (3, .ref q_757), (2, .ref q_750), (1, .ref q_738), (0, .ref b)]) hx hb dL_law_23 hl (by decide) rfl (fun ls hl => ?_)
  refine lv_iconst (v := 0) hx hb dL_law_25 (by decide) ?_
  refine lv_istore (lv' := [(5, .int 0), (4, .ref q_759), (3, .ref q_757), (2, .ref q_750), (1, .ref q_738), (0, .ref b)]) hx hb dL_law_26 hl (by decide) rfl (fun ls hl => ?_)
  refine lv_iload hx hb dL_law_28 (lv_at hl 0 rfl) ?_
  refine lv_aload_n hx hb dL_law_30 rfl (lv_at hl 5 rfl) ?_
  refine va_slen hx hb hX hbl hbA hS dL_law_31 ?_
  refine lv_iconst (v := 5) hx hb dL_law_32 (by decide) ?_
  refine lv_isub hx hb dL_law_33 ?_
  rcases (show L = 5 ∨ L = 0 ∨ L = 1 ∨ L = 2 ∨ L = 3 ∨ L = 4 by omega) with rfl | rfl | rfl | rfl | rfl | rfl
  · refine lv_numI (v := 0) (by decide) ?_
    refine lv_icmp_gt (tgt := 3078) hx hb dL_law_34 (by decide) (fun h => absurd h (by decide)) (fun _ => ?_)
    exact law_switch l hl9 dC dI ed C0 hZ q_738 a1_740 a2_741 a3_742 a4_743 tt_744 rr_745 cq_746 t1_747 t2_748 q_750 b1_752 b2_753 b3_754 b4_755 b5_756 q_757 q_759 cT_749 cA_758 cA_760 (hK.sub [0, 1, 2] rfl) hP hD hS (lv_sub hl [0, 1, 2, 3, 4, 5] rfl)
  · refine lv_numI (v := -5) (by decide) ?_
    refine lv_icmp_gt (tgt := 3078) hx hb dL_law_34 (by decide) (fun _ => ?_) (fun h => absurd (by decide) h)
    refine lv_iconst (v := 1) hx hb dL_law_3078 (by decide) ?_
    refine va_forget (fun q hq => hS.2.2 q hq) ?_
    refine W.widen (k := 600002) (n := 7302232) (Nat.le_of_ble_eq_true rfl) (Nat.le_of_ble_eq_true rfl) ?_
    refine W.base ?_
    exact lw_ret (Drawn.sameBut.refl s.drawn lw_cs) hx hb hr hlocks dL_law_3079
  · refine lv_numI (v := -4) (by decide) ?_
    refine lv_icmp_gt (tgt := 3078) hx hb dL_law_34 (by decide) (fun _ => ?_) (fun h => absurd (by decide) h)
    refine lv_iconst (v := 1) hx hb dL_law_3078 (by decide) ?_
    refine va_forget (fun q hq => hS.2.2 q hq) ?_
    refine W.widen (k := 600002) (n := 7302232) (Nat.le_of_ble_eq_true rfl) (Nat.le_of_ble_eq_true rfl) ?_
    refine W.base ?_
    exact lw_ret (Drawn.sameBut.refl s.drawn lw_cs) hx hb hr hlocks dL_law_3079
  · refine lv_numI (v := -3) (by decide) ?_
    refine lv_icmp_gt (tgt := 3078) hx hb dL_law_34 (by decide) (fun _ => ?_) (fun h => absurd (by decide) h)
    refine lv_iconst (v := 1) hx hb dL_law_3078 (by decide) ?_
    refine va_forget (fun q hq => hS.2.2 q hq) ?_
    refine W.widen (k := 600002) (n := 7302232) (Nat.le_of_ble_eq_true rfl) (Nat.le_of_ble_eq_true rfl) ?_
    refine W.base ?_
    exact lw_ret (Drawn.sameBut.refl s.drawn lw_cs) hx hb hr hlocks dL_law_3079
  · refine lv_numI (v := -2) (by decide) ?_
    refine lv_icmp_gt (tgt := 3078) hx hb dL_law_34 (by decide) (fun _ => ?_) (fun h => absurd (by decide) h)
    refine lv_iconst (v := 1) hx hb dL_law_3078 (by decide) ?_
    refine va_forget (fun q hq => hS.2.2 q hq) ?_
    refine W.widen (k := 600002) (n := 7302232) (Nat.le_of_ble_eq_true rfl) (Nat.le_of_ble_eq_true rfl) ?_
    refine W.base ?_
    exact lw_ret (Drawn.sameBut.refl s.drawn lw_cs) hx hb hr hlocks dL_law_3079
  · refine lv_numI (v := -1) (by decide) ?_
    refine lv_icmp_gt (tgt := 3078) hx hb dL_law_34 (by decide) (fun _ => ?_) (fun h => absurd (by decide) h)
    refine lv_iconst (v := 1) hx hb dL_law_3078 (by decide) ?_
    refine va_forget (fun q hq => hS.2.2 q hq) ?_
    refine W.widen (k := 600002) (n := 7302232) (Nat.le_of_ble_eq_true rfl) (Nat.le_of_ble_eq_true rfl) ?_
    refine W.base ?_
    exact lw_ret (Drawn.sameBut.refl s.drawn lw_cs) hx hb hr hlocks dL_law_3079
