/-! THE CLAIM OUT OF ONE WALK OF THE LAW'S BODY. Your part is whole_start (and what it stands on); all else here is the same for every law, but numbers. -/
def R_law : String := "ShakerhallLaw"
def lw_P (b : Addr) (xs : List Int32) (args : Array Value) (s : State) : Prop := args = #[.ref b] ∧ s.IntsAt b xs ∧ xs.length ≤ 5 ∧ (Jvm.Cond.and given_1 narrow_1).before args s = true
/-- what a walk over the start with the record d0 says of its end, said of the start itself -/
theorem lw_closed {s t : State} {o : Outcome} {d0 : Drawn} {L : List Loc} {k n : Nat} (hd0 : s.drawn.sameBut d0 lw_cs) (hv : ∃ v, o = .returned v) (hW : (s.setDrawn d0).WarmedH t.vm) (hs : (s.setDrawn d0).sameButNew ({ t with vm := s.vm } : State) L k n) : State.butDraws s t lw_cs (fun t1 => Framed s o t1 L k n) := by
  have h2 : t.drawn = d0 := congrArg State.drawn hs.1
  refine ⟨⟨hv, hW, State.sameButNew.setDrawn hs s.drawn⟩, ?_, by decide⟩
  rw [h2]
  exact hd0
def lw_Q (_ : Array Value) (s : State) (o : Outcome) (t : State) : Prop := o = .returned (some (.int 1)) ∧ State.butDraws s t lw_cs (fun t1 => Framed s o t1 [] 600002 7302232)
def lw_Z (below : List Frame) (a : Array Value) (s : State) : State → Prop := fun t => ∃ o, t.status = .running ∧ Ended t below o ∧ lw_Q a s o t
/-- the law's own end, with 1 on the stack, nothing written that was there before, its room as the claim has it; d0: the record of draws at this point (at the entry s.drawn: begin with 'refine W.base ?_' and 'have hd0 := Drawn.sameBut.refl s.drawn lw_cs') -/
theorem lw_ret {p : Program} {l : Launch} {e : Env} {s : State} {m : MethodId} {below : List Frame} {meth : Method} {c : Code} {b : Nat} {d0 : Drawn} (hd0 : s.drawn.sameBut d0 lw_cs) (hx : p.tables.exec = Jvm.exec) (hb : c.code = code) (hr : meth.sig.returnType = ret) (hlocks : meth.locks = false) {pc : Nat} {H : Heap} {ls : Array Slot} (hdg : decode code pc = .ok (.ireturn, 1)) : W p l e room_1 (s.setDrawn d0) m #[Value.ref b] below meth c H [] 600002 7302232 (lw_Z below #[Value.ref b] s) (F0 m pc ls [.int 1]) := by
  intro T hT X
  obtain ⟨fs, hret, hrun, hended, hW, hframe⟩ := X.leave (v := some (.int 1)) (hlocks := hlocks) (fun h => by rw [hr] at h; cases h)
  have hmeth' : T.vm.method? m = some meth := X.method'
  refine ⟨T.setFrames fs, ?_, .returned (some (.int 1)), hrun, hended, rfl, lw_closed hd0 ⟨_, rfl⟩ hW hframe⟩
  jvm_step X.here [X.here.top, hx, hb, hdg, hmeth', hr, ret, narrow_b1]
  (try refine ⟨rfl, ?_⟩); (try refine ⟨rfl, ?_⟩)
  first | (intro acts; rw [hret _ acts rfl rfl rfl]) | rw [hret _ _ rfl rfl rfl]
  exact Steps.refl _
/-- what holds at the law's entry: the machine, the code, the tables' words (any of lw_tbl by 'hts w (by decide +kernel)'), the script of L ints xs at the cell b, what the Statement gives of the start (any of its parts by flat_of_before) -/
def lw_At (p : Program) (s : State) (m : MethodId) (meth : Method) (c : Code) (b L : Nat) (xs : Nat → Int32) : Prop :=
  p.tables.exec = Jvm.exec ∧ c.code = code ∧ meth.sig.returnType = ret ∧ c.maxLocals = 9 ∧ s.vm.findClass R_law = some m.cls ∧ (∀ w ∈ lw_tbl, w.before #[Value.ref b] s = true) ∧ va_X b L xs s s.heap ∧ b < s.heap.size ∧ meth.locks = false ∧ (Jvm.Cond.and given_1 narrow_1).before #[Value.ref b] s = true
set_option maxHeartbeats 4000000 in
set_option maxRecDepth 100000 in
theorem law_tail {p : Program} {e : Env} {s : State} {m : MethodId} {below : List Frame} {meth : Method} {c : Code} (l : Launch) {b : Nat} {xs : Nat → Int32} (C0 : lw_At p s m meth c b 5 xs) {H : Heap} {locs : List Loc} (hS : va_S (fun q : Nat => s.heap.size ≤ q) s.heap H locs) {ls : Array Slot} (hl : lv_has ls 9 [(5, .int 0), (0, .ref b)]) : W p l e room_1 s m #[Value.ref b] below meth c H locs 100 1000 (lw_Z below #[Value.ref b] s) (F0 m 3072 ls []) := by
  obtain ⟨hx, hb, hr, hml, hown, hts0, hX, hbl, hlocks, hgv⟩ := id C0
  have hts : ∀ w ∈ pw_all, w.before #[Value.ref b] s = true := fun w h => hts0 w (pw_tbl h)
  have hA : ∀ q : Nat, s.heap.size ≤ q → (fun q : Nat => s.heap.size ≤ q) q := fun _ h => h
  have hbA : ¬ (fun q : Nat => s.heap.size ≤ q) b := Nat.not_le.mpr hbl
  refine lv_iinc (v := 5) (lv' := [(5, .int 5), (0, .ref b)]) hx hb dL_law_3072 hl (k := 0) rfl (by decide) (by decide) rfl (fun ls hl => ?_)
  refine lv_goto (tgt := 28) hx hb dL_law_3075 (by decide) ?_
  refine lv_iload hx hb dL_law_28 (lv_at hl 0 rfl) ?_
  refine lv_aload_n hx hb dL_law_30 rfl (lv_at hl 1 rfl) ?_
  refine va_slen hx hb hX hbl hbA hS dL_law_31 ?_
  refine lv_iconst (v := 5) hx hb dL_law_32 (by decide) ?_
  refine lv_isub hx hb dL_law_33 ?_
  refine lv_numI (v := 0) (by decide) ?_
  refine lv_icmp_gt (tgt := 3078) hx hb dL_law_34 (by decide) (fun _ => ?_) (fun h => absurd (by decide) h)
  refine lv_iconst (v := 1) hx hb dL_law_3078 (by decide) ?_
  refine va_forget (fun q hq => hS.2.2 q hq) ?_
  refine W.widen (k := 600002) (n := 7302232) (Nat.le_of_ble_eq_true rfl) (Nat.le_of_ble_eq_true rfl) ?_
  refine W.base ?_
  exact lw_ret (Drawn.sameBut.refl s.drawn lw_cs) hx hb hr hlocks dL_law_3079
set_option maxHeartbeats 4000000 in
set_option maxRecDepth 100000 in
theorem pz_start {b : Nat} {s : State} (hts0 : ∀ w ∈ lw_tbl, w.before #[Value.ref b] s = true) (hgv : (Jvm.Cond.and given_1 narrow_1).before #[Value.ref b] s = true) : ∃ ed : Nat, pz ed (fun q : Nat => s.heap.size ≤ q) s s.heap := by
  have hg := flat_of_before _ hgv
  have hA : ∀ a : Nat, a < s.heap.size → ¬ (fun q : Nat => s.heap.size ≤ q) a := fun a h9 => Nat.not_le.mpr h9
  obtain ⟨ed, he1, hT⟩ := va_Tof (f := fun _ => .null) (N := 0) (A := (fun q : Nat => s.heap.size ≤ q)) (by decide) (hg (.arrayOf (.static "java/util/ArrayList" "DEFAULTCAPACITY_EMPTY_ELEMENTDATA" "[Ljava/lang/Object;") (.object "java/lang/Object")) (by decide +kernel)) (va_eqt (hg (.eq (.length (.static "java/util/ArrayList" "DEFAULTCAPACITY_EMPTY_ELEMENTDATA" "[Ljava/lang/Object;")) (.int 0)) (by decide +kernel))) (fun j hj => absurd hj (Nat.not_lt_zero j)) hA
  obtain ⟨ad, hC, hEl⟩ := vb_Cof (A := (fun q : Nat => s.heap.size ≤ q)) (st := (.static "java/lang/Integer$IntegerCache" "cache" "[Ljava/lang/Integer;")) rfl (va_eqt (hg (.eq (.length (.static "java/lang/Integer$IntegerCache" "cache" "[Ljava/lang/Integer;")) (.int 256)) (by decide +kernel))) (hg (.all (.static "java/lang/Integer$IntegerCache" "cache" "[Ljava/lang/Integer;") (.and (.exactly (.elem (.static "java/lang/Integer$IntegerCache" "cache" "[Ljava/lang/Integer;") (.index 0)) "java/lang/Integer") (.eq (.field (.elem (.static "java/lang/Integer$IntegerCache" "cache" "[Ljava/lang/Integer;") (.index 0)) "java/lang/Integer" "value" "I") (.sub (.index 0) (.int 128))))) (by decide +kernel)) hA
  obtain ⟨tc, ht, hTc⟩ := va_Tof (f := fun j => .ref (ad j)) (N := 256) (A := (fun q : Nat => s.heap.size ≤ q)) (by decide) (hg (.arrayOf (.static "java/lang/Integer$IntegerCache" "cache" "[Ljava/lang/Integer;") (.object "java/lang/Integer")) (by decide +kernel)) (va_eqt (hg (.eq (.length (.static "java/lang/Integer$IntegerCache" "cache" "[Ljava/lang/Integer;")) (.int 256)) (by decide +kernel))) (fun j hj => hEl j hj) hA
  have h1 : ∀ q ∈ pz_C, Cond.castable q.1 q.2 ∈ lw_tbl := by decide +kernel
  have h2 : ∀ q ∈ pz_D, Cond.declares q ∈ lw_tbl := by decide +kernel
  have h3 : ∀ q ∈ pz_T, Cond.stringRef q.1 q.2.1 q.2.2 ∈ lw_tbl := by decide +kernel
  have h4 : ∀ q ∈ pz_T, Cond.exactly (.string q.1 q.2.1) "java/lang/String" ∈ flatC (Jvm.Cond.and given_1 narrow_1) := by decide +kernel
  have h5 : ∀ q ∈ pz_N, Cond.not (.castable q.1 q.2) ∈ flatC (Jvm.Cond.and given_1 narrow_1) := by decide +kernel
  refine ⟨ed, vx_Zqof (hts0 (Cond.laysStatic "java/lang/Throwable" "UNASSIGNED_STACK" "[Ljava/lang/StackTraceElement;") (List.mem_of_getElem? (i := 350) (by decide +kernel))) (hts0 (Cond.initialized "java/lang/Throwable") (List.mem_of_getElem? (i := 50) (by decide +kernel))) (hg (.isRef (.static "java/lang/Throwable" "UNASSIGNED_STACK" "[Ljava/lang/StackTraceElement;")) (by decide +kernel)) hA, vx_Zqof (hts0 (Cond.laysStatic "java/lang/Throwable" "SUPPRESSED_SENTINEL" "Ljava/util/List;") (List.mem_of_getElem? (i := 352) (by decide +kernel))) (hts0 (Cond.initialized "java/lang/Throwable") (List.mem_of_getElem? (i := 50) (by decide +kernel))) (hg (.isRef (.static "java/lang/Throwable" "SUPPRESSED_SENTINEL" "Ljava/util/List;")) (by decide +kernel)) hA, fun q hq => va_Nw.of rfl (hts0 _ (h1 q hq)), fun q hq => va_Nw.of rfl (hts0 _ (h2 q hq)), fun q hq => ?_, fun q hq => va_Nc.of (hg _ (h5 q hq)), va_AO.of (hts0 (Cond.arrayOver (FieldType.object "java/lang/Object")) (List.mem_of_getElem? (i := 489) (by decide +kernel))), ?_, ?_, va_Nw.of rfl (hts0 (Cond.methodLinkNest RX10 64 yX9_init RX10) (List.mem_of_getElem? (i := 1259) (by decide +kernel))), va_Nw.of rfl (hts0 (Cond.fieldLinkNest RJx35411 28 RJx4a65c "size" "I" RJx4a65c) (List.mem_of_getElem? (i := 104) (by decide +kernel))), ?_, va_Zref (hts0 (Cond.laysStatic RJx4a65c "DEFAULTCAPACITY_EMPTY_ELEMENTDATA" "[Ljava/lang/Object;") (List.mem_of_getElem? (i := 101) (by decide +kernel))) (hts0 (Cond.initialized RJx4a65c) (List.mem_of_getElem? (i := 46) (by decide +kernel))) he1 hA, ?_⟩
  · obtain ⟨a, _, _, _, q1, -⟩ := Cond.exactly_spec (args := #[Value.ref b]) (first := s) (o := none) (s := s) (idx := []) (hg _ (h4 q hq))
    exact ⟨a, vk_R.of (hts0 _ (h3 q hq)) q1⟩
  · exact (hts0 (Cond.arrayOver (FieldType.array FieldType.int)) (List.mem_of_getElem? (i := 1428) (by decide +kernel)))
  · exact ⟨ad, tc, hC, hTc, va_Zref (hts0 (Cond.laysStatic RJxabbfe "cache" "[Ljava/lang/Integer;") (List.mem_of_getElem? (i := 1976) (by decide +kernel))) (hts0 (Cond.initialized RJxabbfe) (List.mem_of_getElem? (i := 79) (by decide +kernel))) ht hA, va_Zof (hts0 (Cond.laysStatic RJxabbfe "high" "I") (List.mem_of_getElem? (i := 1974) (by decide +kernel))) (hts0 (Cond.initialized RJxabbfe) (List.mem_of_getElem? (i := 79) (by decide +kernel))) (va_eqi (hg (.eq (.static "java/lang/Integer$IntegerCache" "high" "I") (.int 127)) (by decide +kernel))) hA⟩
  · exact va_Fw.of (hts0 (Cond.declares (⟨RJx4d0d8, "hasNext", "()Z"⟩ : MethodName)) (List.mem_of_getElem? (i := 1548) (by decide +kernel))) (hts0 (Cond.interfaceMethod RJx4d0d8 RJx4d0d8 "hasNext" "()Z") (List.mem_of_getElem? (i := 1547) (by decide +kernel))) (hts0 (Cond.publicMethod yJx35411_hasNext_aae02) (List.mem_of_getElem? (i := 1553) (by decide +kernel))) (hts0 (Cond.unhidden RJx35411 "hasNext" "()Z") (List.mem_of_getElem? (i := 1551) (by decide +kernel))) (hts0 (Cond.castable RJx35411 RJx4d0d8) (List.mem_of_getElem? (i := 1549) (by decide +kernel)))
  · obtain ⟨cell, g1, g2, g3, -, g5, -, g7⟩ := hT
    exact ⟨cell, g1, g2, g3, g5, g7⟩
