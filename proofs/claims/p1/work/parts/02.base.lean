/-! the words that hold in any heap, one list for all methods -/
def pw_all : List Cond := lw_tbl.filter goodWord
theorem pw_in {w : Cond} (i : Nat) (h : lw_tbl[i]? = some w) (hg : goodWord w = true) : w ∈ pw_all := List.mem_filter.mpr ⟨List.mem_of_getElem? h, hg⟩
theorem pw_tbl {w : Cond} (h : w ∈ pw_all) : w ∈ lw_tbl := (List.mem_filter.mp h).1
theorem pw_ok {ws : List Cond} (h : ∀ w ∈ ws, w ∈ pw_all) : GoodIn pw_all ws := fun w hw => ⟨h w hw, good_of_word (List.mem_filter.mp (h w hw)).2⟩
abbrev pw_ws (y : MethodName) (b : ByteArray) (n : Nat) (r : Option FieldType) : List Cond := Cond.code y b n r :: pw_all
abbrev pw_wh (y : MethodName) (b : ByteArray) (n : Nat) (r : Option FieldType) (h : List (Nat × Nat × Nat × Nat)) : List Cond := Cond.codeWith y b n r h :: pw_all
theorem pw_c {c : Cond} (h : c ∈ pw_all) : GoodIn pw_all (c :: pw_all) := pw_ok (fun w hw => (List.mem_cons.mp hw).elim (fun e => e ▸ h) (fun h => h))
theorem pw_V {own C : String} {k : Nat} {y : MethodName} {c : Cond} (h1 : Cond.methodLink own k y ∈ pw_all) (h2 : Cond.instanceMethod y ∈ pw_all) (h3 : Cond.selects C y y ∈ pw_all) (h4 : Cond.initialized C ∈ pw_all) (h5 : c ∈ pw_all) : GoodIn pw_all (wsV own k C y (c :: pw_all)) := by
  refine pw_ok (fun w hw => ?_)
  unfold wsV at hw
  rcases List.mem_append.mp hw with hw | hw
  · simp only [List.mem_cons, List.not_mem_nil, or_false] at hw
    rcases hw with rfl | rfl | rfl | rfl
    · exact h1
    · exact h2
    · exact h3
    · exact h4
  · exact (List.mem_cons.mp hw).elim (fun e => e ▸ h5) (fun h => h)
theorem pw_S {own : String} {k : Nat} {y : MethodName} {c : Cond} (h1 : Cond.methodLink own k y ∈ pw_all) (h2 : Cond.static y ∈ pw_all) (h4 : Cond.initialized y.cls ∈ pw_all) (h5 : c ∈ pw_all) : GoodIn pw_all (va_wsS own k y (c :: pw_all)) := by
  refine pw_ok (fun w hw => ?_)
  unfold va_wsS at hw
  rcases List.mem_append.mp hw with hw | hw
  · simp only [List.mem_cons, List.not_mem_nil, or_false] at hw
    rcases hw with rfl | rfl | rfl
    · exact h1
    · exact h2
    · exact h4
  · exact (List.mem_cons.mp hw).elim (fun e => e ▸ h5) (fun h => h)
theorem pw_F {own C : String} {k : Nat} {x y : MethodName} {c : Cond} (h1 : Cond.methodLink own k x ∈ pw_all) (h2 : Cond.selects C x y ∈ pw_all) (h3 : Cond.instanceMethod y ∈ pw_all) (h4 : Cond.initialized y.cls ∈ pw_all) (h5 : c ∈ pw_all) : GoodIn pw_all (va_wsF own k C x y (c :: pw_all)) := by
  refine pw_ok (fun w hw => ?_)
  unfold va_wsF at hw
  rcases List.mem_append.mp hw with hw | hw
  · simp only [List.mem_cons, List.not_mem_nil, or_false] at hw
    rcases hw with rfl | rfl | rfl | rfl
    · exact h1
    · exact h2
    · exact h3
    · exact h4
  · exact (List.mem_cons.mp hw).elim (fun e => e ▸ h5) (fun h => h)
theorem pl_none (x : Int32) : x < 0 ∨ (-1) < x := by
  by_cases h : x < 0
  · exact Or.inl h
  · right
    rw [Int32.lt_iff_toInt_lt] at h ⊢
    have h0 : (0 : Int32).toInt = 0 := rfl
    have h1 : (-1 : Int32).toInt = -1 := rfl
    omega
/-! what holds of the machine besides: no method here writes it -/
def pz_C : List (String × String) := [("java/lang/IllegalStateException", "java/lang/IllegalStateException"), ("java/lang/IndexOutOfBoundsException", "java/lang/IndexOutOfBoundsException"), ("java/lang/IllegalArgumentException", "java/lang/IllegalArgumentException"), ("java/lang/UnsupportedOperationException", "java/lang/UnsupportedOperationException"), ("Shakerhall$Structure", "java/lang/Object"), ("Shakerhall$Specification", "java/lang/Object"), ("ShakerhallModel$Structure", "java/lang/Object"), ("java/lang/Integer", "java/lang/Object"), ("[[I", "java/lang/Object")]
def pz_D : List MethodName := [⟨"java/lang/RuntimeException", "<init>", "(Ljava/lang/String;)V"⟩, ⟨"java/lang/Exception", "<init>", "(Ljava/lang/String;)V"⟩, ⟨"java/lang/Throwable", "<init>", "(Ljava/lang/String;)V"⟩]
def pz_T : List (String × Nat × String) := [("Shakerhall", 49, "no room for a structure"), ("Shakerhall", 390, "no such structure"), ("Shakerhall", 401, "a number is out of range"), ("Shakerhall", 76, "no room for a mass"), ("Shakerhall", 399, "no such mass"), ("Shakerhall", 88, "the spring has all its cracks"), ("Shakerhall", 403, "the structure has no masses"), ("Shakerhall", 114, "no room for a sensor"), ("Shakerhall", 393, "no such sensor"), ("Shakerhall", 140, "no room for a specification"), ("Shakerhall", 395, "no such specification"), ("Shakerhall", 161, "no such way of control"), ("Shakerhall", 164, "no room for a run"), ("Shakerhall", 397, "no such run"), ("Shakerhall", 182, "the sensor can't control this run"), ("Shakerhall", 188, "no room for a control sensor"), ("Shakerhall", 405, "the run is broken off"), ("Shakerhall", 218, "the run has had its time"), ("Shakerhall", 237, "a band is not in band"), ("Shakerhall", 239, "the run is at the highest stage"), ("Shakerhall", 245, "the run is not broken off"), ("Shakerhall", 253, "no room for a paper"), ("Shakerhall", 255, "no paper is signed"), ("Shakerhall", 274, "no such event"), ("Shakerhall", 289, "no room for a place"), ("Shakerhall", 407, "nothing is typed"), ("Shakerhall", 365, "no signature was taken"), ("ShakerhallModel$Run", 28, ""), ("java/util/Arrays", 337, " > ")]
def pz_N : List (String × String) := [("java/lang/UnsupportedOperationException", "java/lang/IllegalArgumentException"), ("java/lang/UnsupportedOperationException", "java/lang/IndexOutOfBoundsException"), ("java/lang/IllegalArgumentException", "java/lang/IndexOutOfBoundsException")]
abbrev pz_M : Cond := Cond.methodLinkNest "ShakerhallModel" 64 ⟨"ShakerhallModel$Structure", "<init>", "()V"⟩ "ShakerhallModel"
abbrev pz_F : Cond := Cond.fieldLinkNest "java/util/ArrayList$Itr" 28 "java/util/ArrayList" "size" "I" "java/util/ArrayList"
abbrev pz_x : MethodName := ⟨"java/util/Iterator", "hasNext", "()Z"⟩
abbrev pz_y : MethodName := ⟨"java/util/ArrayList$Itr", "hasNext", "()Z"⟩
def pz_E (ed : Nat) (A : Nat → Prop) (U : State) (H : Heap) : Prop := ∃ cell : Cell, H[ed]? = some cell ∧ U.isArrayOf cell (.object "java/lang/Object") ∧ cell.vm ≠ .unknown ∧ cell.slots.size.toInt32 = 0 ∧ ¬ A ed
def pz_B (A : Nat → Prop) (U : State) (H : Heap) : Prop := ∃ (ad : Nat → Nat) (tc : Nat), vb_C ad A U H ∧ va_T (.object "java/lang/Integer") tc 256 (fun k => .ref (ad k)) A U H ∧ va_Z "java/lang/Integer$IntegerCache" "cache" "[Ljava/lang/Integer;" (.ref tc) A U H ∧ va_Z "java/lang/Integer$IntegerCache" "high" "I" (.int 127) A U H
theorem pz_B.kept {A : Nat → Prop} {U : State} {H H1 : Heap} (h : pz_B A U H) (hq : ∀ a : Nat, a < H.size → ¬ A a → H1[a]? = H[a]?) : pz_B A U H1 := by
  obtain ⟨ad, tc, h1, h2, h3, h4⟩ := h
  exact ⟨ad, tc, h1.kept hq, h2.kept hq, h3.kept hq, h4.kept hq⟩
theorem pz_B.narrow {A B : Nat → Prop} {U : State} {H : Heap} (h : pz_B A U H) (hAB : ∀ q, B q → A q) : pz_B B U H := by
  obtain ⟨ad, tc, h1, h2, h3, h4⟩ := h
  exact ⟨ad, tc, h1.narrow hAB, h2.narrow hAB, h3.narrow hAB, h4.narrow hAB⟩
theorem pz_B.moved {A : Nat → Prop} {u U : State} {H : Heap} (hvm : u.vm.Alike U.vm) (h : pz_B A u H) : pz_B A U H := by
  obtain ⟨ad, tc, h1, h2, h3, h4⟩ := h
  exact ⟨ad, tc, h1.moved hvm, h2.moved hvm, h3.moved hvm, h4.moved hvm⟩
def pz (ed : Nat) (A : Nat → Prop) (U : State) (H : Heap) : Prop :=
  vx_Zq Bundle.tN "UNASSIGNED_STACK" Bundle.steD A U H ∧ vx_Zq Bundle.tN "SUPPRESSED_SENTINEL" Bundle.listD A U H ∧
  (∀ q ∈ pz_C, va_Nw (.castable q.1 q.2) U) ∧ (∀ q ∈ pz_D, va_Nw (.declares q) U) ∧ (∀ q ∈ pz_T, ∃ a, vk_R q.1 q.2.1 q.2.2 a U) ∧ (∀ q ∈ pz_N, va_Nc q.1 q.2 U) ∧
  va_AO "java/lang/Object" U ∧ va_AOA .int U ∧ pz_B A U H ∧ va_Nw pz_M U ∧ va_Nw pz_F U ∧ va_Fw "java/util/ArrayList$Itr" pz_x pz_y U ∧ va_Z "java/util/ArrayList" "DEFAULTCAPACITY_EMPTY_ELEMENTDATA" "[Ljava/lang/Object;" (.ref ed) A U H ∧ pz_E ed A U H
theorem pz.kept {ed : Nat} {A : Nat → Prop} {U : State} {H H1 : Heap} (h : pz ed A U H) (hq : ∀ a : Nat, a < H.size → ¬ A a → H1[a]? = H[a]?) : pz ed A U H1 := by
  obtain ⟨h1, h2, h3, h4, h5, h6, h7, ha, hb, hm, hf, hw, h8, cell, g1, g2, g3, g4, g5⟩ := h
  exact ⟨h1.kept hq, h2.kept hq, h3, h4, h5, h6, h7, ha, hb.kept hq, hm, hf, hw, h8.kept hq, cell, by rw [hq ed (Array.getElem?_eq_some_iff.mp g1).1 g5]; exact g1, g2, g3, g4, g5⟩
theorem pz.narrow {ed : Nat} {A B : Nat → Prop} {U : State} {H : Heap} (h : pz ed A U H) (hAB : ∀ q, B q → A q) : pz ed B U H := by
  obtain ⟨h1, h2, h3, h4, h5, h6, h7, ha, hb, hm, hf, hw, h8, cell, g1, g2, g3, g4, g5⟩ := h
  exact ⟨h1.narrow hAB, h2.narrow hAB, h3, h4, h5, h6, h7, ha, hb.narrow hAB, hm, hf, hw, h8.narrow hAB, cell, g1, g2, g3, g4, fun z => g5 (hAB _ z)⟩
theorem pz.warm {ed : Nat} {A : Nat → Prop} {s U : State} {H : Heap} (h : pz ed A s H) (hW : s.WarmedH U.vm) : pz ed A U H := by
  obtain ⟨h1, h2, h3, h4, h5, h6, h7, ha, hb, hm, hf, hw, h8, cell, g1, g2, g3, g4, g5⟩ := h
  exact ⟨h1.moved hW.alike, h2.moved hW.alike, fun q hq => (h3 q hq).warmC hW, fun q hq => (h4 q hq).warmD hW, fun q hq => (h5 q hq).elim (fun a ha => ⟨a, ha.warm hW⟩), fun q hq => (h6 q hq).moved hW.alike, h7.moved hW.alike, over_moved hW.alike ha, hb.moved hW.alike, va_Nw.warmM hW hm, va_Nw.warmF hW hf, hw.moved (by decide) hW.alike, h8.moved hW.alike, cell, g1, State.isArrayOf_alike hW.alike g2, g3, g4, g5⟩
theorem pz.call {ed : Nat} {A A' : Nat → Prop} {s U : State} {H : Heap} {locs : List Loc} (h : pz ed A s s.heap) (hS : va_S A s.heap H locs) (hF : ∀ q, A' q → A q) (hU : U.heap = H) (hW : s.WarmedH U.vm) : pz ed A' U U.heap := by
  rw [hU]
  exact ((h.kept (fun a h1 h2 => hS.2.1 a h1 h2)).narrow hF).warm hW
theorem pz.same {ed : Nat} {A : Nat → Prop} {u U : State} {H : Heap} (h : pz ed A u H) (hv : U.vm = u.vm) : pz ed A U H := h.warm (by rw [hv]; exact State.WarmedH.refl u)
theorem pz.str {ed : Nat} {A : Nat → Prop} {U : State} {H : Heap} {own tx : String} {k : Nat} (h : pz ed A U H) (hq : (own, k, tx) ∈ pz_T) : ∃ a, vk_R own k tx a U := h.2.2.2.2.1 _ hq
theorem pz.nc {ed : Nat} {A : Nat → Prop} {U : State} {H : Heap} {C T : String} (h : pz ed A U H) (hq : (C, T) ∈ pz_N) : va_Nc C T U := h.2.2.2.2.2.1 _ hq
theorem pz.cast {ed : Nat} {A : Nat → Prop} {U : State} {H : Heap} {args : Array Value} {C T : String} (h : pz ed A U H) (hq : (C, T) ∈ pz_C) : (Cond.castable C T).before args U = true := va_Nw.use rfl (h.2.2.1 _ hq)
theorem pz.over {ed : Nat} {A : Nat → Prop} {U : State} {H : Heap} (h : pz ed A U H) : va_AOA .int U := h.2.2.2.2.2.2.2.1
theorem pz.boxes {ed : Nat} {A : Nat → Prop} {U : State} {H : Heap} (h : pz ed A U H) : pz_B A U H := h.2.2.2.2.2.2.2.2.1
theorem pz.nestM {ed : Nat} {A : Nat → Prop} {U : State} {H : Heap} (h : pz ed A U H) : va_Nw pz_M U := h.2.2.2.2.2.2.2.2.2.1
theorem pz.nestF {ed : Nat} {A : Nat → Prop} {U : State} {H : Heap} (h : pz ed A U H) : va_Nw pz_F U := h.2.2.2.2.2.2.2.2.2.2.1
theorem pz.list {ed : Nat} {A : Nat → Prop} {U : State} {H : Heap} (h : pz ed A U H) : va_Z "java/util/ArrayList" "DEFAULTCAPACITY_EMPTY_ELEMENTDATA" "[Ljava/lang/Object;" (.ref ed) A U H := h.2.2.2.2.2.2.2.2.2.2.2.2.1
theorem pz.iter {ed : Nat} {A : Nat → Prop} {U : State} {H : Heap} (h : pz ed A U H) : va_Fw "java/util/ArrayList$Itr" pz_x pz_y U := h.2.2.2.2.2.2.2.2.2.2.2.1
theorem pz.decl {ed : Nat} {A : Nat → Prop} {U : State} {H : Heap} {args : Array Value} {q : MethodName} (h : pz ed A U H) (hq : q ∈ pz_D) : (Cond.declares q).before args U = true := va_Nw.use rfl (h.2.2.2.1 _ hq)
/-! an element that a list takes: an object that no method here writes -/
def pe (el : Nat) (A : Nat → Prop) (U : State) (H : Heap) : Prop := va_Any "java/lang/Object" U H el ∧ ¬ A el
theorem pe.warm {el : Nat} {A : Nat → Prop} {s U : State} {H : Heap} (h : pe el A s H) (hW : s.WarmedH U.vm) : pe el A U H := by
  obtain ⟨⟨cell, h1, h2, ⟨kC, h3⟩, h4⟩, h5⟩ := h
  obtain ⟨k', hk', -⟩ := hW.alike.2.2 _ _ h3
  exact ⟨⟨cell, h1, h2, ⟨k', hk'⟩, fun comp hc => by rw [hW.alike.assignable]; exact h4 comp (by rw [← hW.alike.findClass]; exact hc)⟩, h5⟩
theorem pe.heap {el : Nat} {A : Nat → Prop} {U : State} {H : Heap} (h : pe el A U H) (hU : U.heap = H) : pe el A U U.heap := by rw [hU]; exact h
theorem pe.any {el : Nat} {A : Nat → Prop} {s : State} {H : Heap} {locs : List Loc} (h : pe el A s s.heap) (hS : va_S A s.heap H locs) : va_Any "java/lang/Object" s H el := by
  obtain ⟨⟨cell, h1, h2, h3, h4⟩, h5⟩ := h
  exact ⟨cell, by rw [hS.2.1 el (Array.getElem?_eq_some_iff.mp h1).1 h5]; exact h1, h2, h3, h4⟩
theorem pe.call {el : Nat} {A A' : Nat → Prop} {s U : State} {H : Heap} {locs : List Loc} (h : pe el A s s.heap) (hS : va_S A s.heap H locs) (hF : ∀ q, A' q → A q) (hU : U.heap = H) (hW : s.WarmedH U.vm) : pe el A' U U.heap := by
  have h1 : pe el A' s H := ⟨h.any hS, fun z => h.2 (hF _ z)⟩
  exact (h1.warm hW).heap hU
theorem pe.same {el : Nat} {A : Nat → Prop} {u U : State} {H : Heap} (h : pe el A u H) (hv : U.vm = u.vm) : pe el A U H := h.warm (by rw [hv]; exact State.WarmedH.refl u)
theorem pe.of {D : va_G} {cl : List vw_C} {tys : List (ClassId × FieldType)} {ws : va_W} {A : Nat → Prop} {s : State} {H : Heap} {el i ci : Nat} {fs : List Value} {r : vw_C} (hK : va_K D cl tys s) (hP : va_P D cl ws H) (he : ws[i]? = some (el, .inr (ci, fs))) (hc : cl[ci]? = some r) (hca : va_Nw (.castable r.1 "java/lang/Object") s) (hn : ¬ A el) : pe el A s H := by
  refine ⟨va_rAny hK hP he hc (fun comp c0 h1 h2 => ?_), hn⟩
  obtain ⟨c3, c4, hc3, hc4, hasg⟩ := Cond.castable_spec (va_Nw.use (A := #[]) rfl hca)
  cases h1.symm.trans hc4
  cases h2.symm.trans hc3
  exact hasg
theorem pe_mv {y : Nat} {u U : State} {H : Heap} (hvm : u.vm.Alike U.vm) (h : va_Any "java/lang/Object" u H y) : va_Any "java/lang/Object" U H y := by
  obtain ⟨cell, h1, h2, ⟨kC, h3⟩, h4⟩ := h
  obtain ⟨k', hk', -⟩ := hvm.2.2 _ _ h3
  exact ⟨cell, h1, h2, ⟨k', hk'⟩, fun comp hc => by rw [hvm.assignable]; exact h4 comp (by rw [← hvm.findClass]; exact hc)⟩
theorem pe_ofO {y : Nat} {A : Nat → Prop} {s : State} {H : Heap} (h : va_O "java/lang/Integer" y A s H) (hca : (Cond.castable "java/lang/Integer" "java/lang/Object").before #[] s = true) : va_Any "java/lang/Object" s H y := by
  obtain ⟨cell, h1, h2, h3, h4⟩ := h
  obtain ⟨kC, hkC, -⟩ := Vm.findClass_spec h3
  refine ⟨cell, h1, h2, ⟨kC, hkC⟩, fun comp hc => ?_⟩
  obtain ⟨c3, c4, hc3, hc4, hasg⟩ := Cond.castable_spec hca
  cases hc.symm.trans hc4
  cases h3.symm.trans hc3
  exact hasg
/-- an object handed back, no cell of the list's world: an element -/
theorem pe_box {ra a : Nat} {x : va_E} {s : State} {H : Heap} (hany : va_Any "java/lang/Object" s H ra) (hne : ra ≠ a) : pe ra (va_A [(a, x)] H.size) s H := by
  refine ⟨hany, fun h => ?_⟩
  rcases h with ⟨k, e', hk⟩ | h
  · match k, hk with
    | 0, hk => cases hk; exact hne rfl
    | k + 1, hk => simp at hk
  · obtain ⟨cell, h1, -⟩ := hany
    exact absurd (Array.getElem?_eq_some_iff.mp h1).1 (Nat.not_lt.mpr h)
/-- an array of int arrays as an element -/
theorem pe_arr {D : va_G} {cl : List vw_C} {tys : List (ClassId × FieldType)} {ws : va_W} {s : State} {H : Heap} {el i t : Nat} {cA : ClassId} {x : vp_A} (hK : va_K D cl tys s) (hP : va_P D cl ws H) (he : ws[i]? = some (el, .inl (cA, x))) (ht : tys[t]? = some (cA, .array .int)) (hca : (Cond.castable "[[I" "java/lang/Object").before #[] s = true) : va_Any "java/lang/Object" s H el := by
  have h1 : H[el]? = some (vp_cell cA x) := hP i _ he
  have h2 : s.vm.findClass "[[I" = some cA := (hK.2 t _ ht).2
  obtain ⟨kC, hkC, -⟩ := Vm.findClass_spec h2
  have hcl : (vp_cell cA x).cls = cA := by obtain ⟨n, y⟩ := x; rcases y with y | y | y | y | y <;> rfl
  have hst : (vp_cell cA x).vm.isStatics = false := by obtain ⟨n, y⟩ := x; rcases y with y | y | y | y | y <;> rfl
  refine ⟨_, h1, hst, ⟨kC, by rw [hcl]; exact hkC⟩, fun comp hc => ?_⟩
  obtain ⟨c3, c4, hc3, hc4, hasg⟩ := Cond.castable_spec hca
  cases hc.symm.trans hc4
  cases h2.symm.trans hc3
  rw [hcl]
  exact hasg
theorem pe_ne {D : va_G} {cl : List vw_C} {A : Nat → Prop} {ws wc : va_W} {H : Heap} {el i : Nat} {e : va_E} (hP : va_P D cl ws H) (hD : va_D A ws) (he : ws[i]? = some (el, e)) (isC : List Nat) (hC : isC.map (fun i => ws[i]?) = wc.map some) (hi : i ∉ isC) : ¬ va_A wc H.size el := by
  intro h
  rcases h with ⟨k, e', hk⟩ | h
  · have h1 : (isC.map (fun i => ws[i]?))[k]? = some (some (el, e')) := by rw [hC, List.getElem?_map, hk]; rfl
    rw [List.getElem?_map] at h1
    cases hq : isC[k]? with
    | none => rw [hq] at h1; cases h1
    | some j =>
      rw [hq] at h1
      have h2 : ws[j]? = some (el, e') := Option.some.inj h1
      have := hD.1 i j _ _ he h2 rfl
      exact hi (this ▸ List.mem_of_getElem? hq)
  · exact absurd (vx_lt hP he) (Nat.not_lt.mpr h)
section VXR
variable {p : Program} {l : Launch} {e : Env} {R : Room} {s : State} {m : MethodId} {args : Array Value} {below : List Frame} {meth : Method} {c : Code} {H : Heap} {locs : List Loc} {cells slots : Nat} {Q : State → Prop}
variable {mc ms : Nat} {free : Addr → Prop} {A0 A1 : Nat → Prop} {a : Array Value} {pc : Nat} {ls : Array Slot} {st0 rest : List Value}
/-- a callee that hands back a reference, or throws (as vx_callv) -/
theorem vx_callr {H0 : Heap} {S SX : Type} {post : S → Prop} {px : SX → Prop} {B : S → Nat → State → Prop} {BX : String → SX → State → Prop} {AX : Nat → Prop} (hr : vx_Run p l e R s m args below meth c H locs cells slots mc ms (F0 m pc ls st0) rest (va_Qr post B A1 a) (vx_X px BX AX) free) (hS : va_S A0 H0 H locs) (hA : ∀ q, q < H.size → A1 q → A0 q) (hf : ∀ q, free q → A0 q) (hAX : ∀ q, q < H.size → AX q → A0 q)
    (kx : ∀ (E : String) (ce : Cell) (q9 : Addr) (u : SX) (t : State) (H1 : Heap) (locs1 : List Loc), t.heap = H1 → s.vm.Alike t.vm → px u → BX E u t → H.size ≤ H1.size → (∀ q : Nat, q < H.size → ¬ AX q → H1[q]? = H[q]?) → va_S A0 H0 H1 locs1 → H1[q9]? = some ce → ce.vm = .none → s.vm.findClass E = some ce.cls → vx_W p l e R s m args below meth c H1 locs1 (cells + mc) (slots + ms) Q (F0 m pc ls rest) q9)
    (kk : ∀ (u : S) (ra : Nat) (t : State) (H1 : Heap) (locs1 : List Loc), t.heap = H1 → s.vm.Alike t.vm → post u → B u ra t → H.size ≤ H1.size → (∀ q : Nat, q < H.size → ¬ A1 q → H1[q]? = H[q]?) → va_S A0 H0 H1 locs1 → W p l e R s m args below meth c H1 locs1 (cells + mc) (slots + ms) Q (F0 m (pc + 3) ls (.ref ra :: rest))) : W p l e R s m args below meth c H locs cells slots Q (F0 m pc ls st0) := by
  intro T hT X
  rcases hr T hT X with ⟨v, st₀, t, T', L, h0, X', hL, e1, e2, ⟨⟨u, ra, hv, hp, hb⟩, hF⟩, st⟩ | ⟨q, st₀, t, T', L, E, ce, h0, X', hL, e1, e2, ⟨u, hp, hb, hF⟩, hce, hcv, hcl, st⟩
  · cases hv
    obtain ⟨k1, k2, k3⟩ := vx_keep h0 e1 hS hA hf hL hF
    obtain ⟨t2, a1, b1⟩ := kk u ra t T'.heap (locs ++ L) e1.symm (by rw [← e2]; exact X'.warmed.alike) hp hb k1 k2 k3 T' rfl X'
    exact ⟨t2, st t2 a1, b1⟩
  · obtain ⟨k1, k2, k3⟩ := vx_keep h0 e1 hS hAX hf hL hF
    obtain ⟨t2, a1, b1⟩ := kx E ce q u t T'.heap (locs ++ L) e1.symm (by rw [← e2]; exact X'.warmed.alike) hp hb k1 k2 k3 (by rw [e1]; exact hce) hcv hcl T' rfl X'
    exact ⟨t2, st.trans a1, b1⟩
end VXR
/-! what a throwing method leaves: the exception's class by its name, the world -/
def px_T : Unit → Prop := fun _ => True
theorem pl_pz {ed : Nat} {A : Nat → Prop} {s : State} {H : Heap} {locs : List Loc} (h : pz ed A s s.heap) (hS : va_S A s.heap H locs) : pz ed A s H := h.kept (fun a h1 h2 => hS.2.1 a h1 h2)
theorem lv_numI {p : Program} {l : Launch} {e : Env} {R : Room} {s : State} {m : MethodId} {args : Array Value} {below : List Frame} {meth : Method} {c : Code} {H : Heap} {locs : List Loc} {cells slots : Nat} {Q : State → Prop} {pc : Nat} {ls : Array Slot} {rest : List Value} {x v : Int32} (h : x = v) (k : W p l e R s m args below meth c H locs cells slots Q (F0 m pc ls (.int v :: rest))) : W p l e R s m args below meth c H locs cells slots Q (F0 m pc ls (.int x :: rest)) := h ▸ k
theorem lv_numI2 {p : Program} {l : Launch} {e : Env} {R : Room} {s : State} {m : MethodId} {args : Array Value} {below : List Frame} {meth : Method} {c : Code} {H : Heap} {locs : List Loc} {cells slots : Nat} {Q : State → Prop} {pc : Nat} {ls : Array Slot} {rest : List Value} {x v : Int32} (h : x = v) (k : W p l e R s m args below meth c H locs cells slots Q (F0 m pc ls (.int v :: rest))) : W p l e R s m args below meth c H locs cells slots Q (F0 m pc ls (.int x :: rest)) := h ▸ k
theorem lv_topr {p : Program} {l : Launch} {e : Env} {R : Room} {s : State} {m : MethodId} {args : Array Value} {below : List Frame} {meth : Method} {c : Code} {H : Heap} {locs : List Loc} {cells slots : Nat} {Q : State → Prop} {pc : Nat} {ls : Array Slot} {rest : List Value} {x v : Value} (h : x = v) (k : W p l e R s m args below meth c H locs cells slots Q (F0 m pc ls (v :: rest))) : W p l e R s m args below meth c H locs cells slots Q (F0 m pc ls (x :: rest)) := h ▸ k
theorem lv_numL {p : Program} {l : Launch} {e : Env} {R : Room} {s : State} {m : MethodId} {args : Array Value} {below : List Frame} {meth : Method} {c : Code} {H : Heap} {locs : List Loc} {cells slots : Nat} {Q : State → Prop} {pc : Nat} {ls : Array Slot} {rest : List Value} {x v : Int64} (h : x = v) (k : W p l e R s m args below meth c H locs cells slots Q (F0 m pc ls (.long v :: rest))) : W p l e R s m args below meth c H locs cells slots Q (F0 m pc ls (.long x :: rest)) := h ▸ k
theorem pl_aldq {p : Program} {l : Launch} {e : Env} {R : Room} {s : State} {m : MethodId} {args : Array Value} {below : List Frame} {meth : Method} {c : Code} {H : Heap} {locs : List Loc} {cells slots : Nat} {Q : State → Prop} {cc : ByteArray} {pc : Nat} {ls : Array Slot} {rest : List Value} {D : va_G} {cl : List vw_C} {a : Nat} {tys : List (ClassId × FieldType)} {ws : va_W} (hexec : p.tables.exec = Jvm.exec) (hb : c.code = cc) (hK : va_K D cl tys s) (hP : va_P D cl ws H) (q0 t0 : Nat) {cA : ClassId} {ty : FieldType} {n : Nat} {f : Nat → Option Nat} (ha : ws[q0]? = some (a, .inl (cA, n, .inr (.inr (.inr (.inr f)))))) (ht : tys[t0]? = some (cA, .array ty)) {i : Int32} (hin : vp_in i n) (hdg : decode cc pc = .ok (.aaload, 1))
    (kk : W p l e R s m args below meth c H locs cells slots Q (F0 m (pc + 1) ls (va_rf (f i.toNatClampNeg) :: rest))) : W p l e R s m args below meth c H locs cells slots Q (F0 m pc ls (.int i :: .ref a :: rest)) := by
  have hlt : i.toNatClampNeg < n := Nat.not_le.mp fun q => hin (Or.inr q)
  exact W.aald (v := va_rf (f i.toNatClampNeg)) (ty := .array ty) hexec hb (hP q0 _ ha) ((hK.2 t0 _ ht).1 n (fun j => va_rf (f j))) rfl (fun q => by cases q) (by show ¬ (i < 0 ∨ (arrV _ _ _).slots.size ≤ _); rw [arrV_size]; exact hin) (by show (arrV _ _ _).slots[_]? = _; rw [arrV_read _ _ hlt]) rfl rfl hdg kk
/-- the length of the array that all empty lists share -/
theorem pl_edlen {p : Program} {l : Launch} {e : Env} {R : Room} {s : State} {m : MethodId} {args : Array Value} {below : List Frame} {meth : Method} {c : Code} {H : Heap} {locs : List Loc} {cells slots : Nat} {Q : State → Prop} {cc : ByteArray} {pc : Nat} {ls : Array Slot} {rest : List Value} {ed : Nat} {A : Nat → Prop} (hx : p.tables.exec = Jvm.exec) (hb : c.code = cc) (hZ : pz ed A s s.heap) (hS : va_S A s.heap H locs) (hdg : decode cc pc = .ok (.arraylength, 1))
    (kk : W p l e R s m args below meth c H locs cells slots Q (F0 m (pc + 1) ls (.int 0 :: rest))) : W p l e R s m args below meth c H locs cells slots Q (F0 m pc ls (.ref ed :: rest)) := by
  obtain ⟨-, -, -, -, -, -, -, -, -, -, -, -, -, cell, g1, g2, g3, g4, g5⟩ := pl_pz hZ hS
  exact W.alen (n := 0) hx hb g1 g2 g4 rfl rfl hdg kk
theorem inJx4a65c : ∀ w ∈ wsJx4a65c0, w ∈ pw_all := fun w h => List.mem_filter.mpr ⟨(by decide +kernel : ∀ w ∈ wsJx4a65c0, w ∈ lw_tbl) w h, (by decide +kernel : ∀ w ∈ wsJx4a65c0, goodWord w = true) w h⟩
theorem inJx35411 : ∀ w ∈ wsJx354110, w ∈ pw_all := fun w h => List.mem_filter.mpr ⟨(by decide +kernel : ∀ w ∈ wsJx354110, w ∈ lw_tbl) w h, (by decide +kernel : ∀ w ∈ wsJx354110, goodWord w = true) w h⟩
theorem inJ6 : ∀ w ∈ wsJ60, w ∈ pw_all := fun w h => List.mem_filter.mpr ⟨(by decide +kernel : ∀ w ∈ wsJ60, w ∈ lw_tbl) w h, (by decide +kernel : ∀ w ∈ wsJ60, goodWord w = true) w h⟩
theorem inX0 : ∀ w ∈ wsX00, w ∈ pw_all := fun w h => List.mem_filter.mpr ⟨(by decide +kernel : ∀ w ∈ wsX00, w ∈ lw_tbl) w h, (by decide +kernel : ∀ w ∈ wsX00, goodWord w = true) w h⟩
theorem inX1 : ∀ w ∈ wsX10, w ∈ pw_all := fun w h => List.mem_filter.mpr ⟨(by decide +kernel : ∀ w ∈ wsX10, w ∈ lw_tbl) w h, (by decide +kernel : ∀ w ∈ wsX10, goodWord w = true) w h⟩
theorem inX2 : ∀ w ∈ wsX20, w ∈ pw_all := fun w h => List.mem_filter.mpr ⟨(by decide +kernel : ∀ w ∈ wsX20, w ∈ lw_tbl) w h, (by decide +kernel : ∀ w ∈ wsX20, goodWord w = true) w h⟩
theorem inX3 : ∀ w ∈ wsX30, w ∈ pw_all := fun w h => List.mem_filter.mpr ⟨(by decide +kernel : ∀ w ∈ wsX30, w ∈ lw_tbl) w h, (by decide +kernel : ∀ w ∈ wsX30, goodWord w = true) w h⟩
theorem inX4 : ∀ w ∈ wsX40, w ∈ pw_all := fun w h => List.mem_filter.mpr ⟨(by decide +kernel : ∀ w ∈ wsX40, w ∈ lw_tbl) w h, (by decide +kernel : ∀ w ∈ wsX40, goodWord w = true) w h⟩
theorem inX5 : ∀ w ∈ wsX50, w ∈ pw_all := fun w h => List.mem_filter.mpr ⟨(by decide +kernel : ∀ w ∈ wsX50, w ∈ lw_tbl) w h, (by decide +kernel : ∀ w ∈ wsX50, goodWord w = true) w h⟩
theorem inX6 : ∀ w ∈ wsX60, w ∈ pw_all := fun w h => List.mem_filter.mpr ⟨(by decide +kernel : ∀ w ∈ wsX60, w ∈ lw_tbl) w h, (by decide +kernel : ∀ w ∈ wsX60, goodWord w = true) w h⟩
theorem inX7 : ∀ w ∈ wsX70, w ∈ pw_all := fun w h => List.mem_filter.mpr ⟨(by decide +kernel : ∀ w ∈ wsX70, w ∈ lw_tbl) w h, (by decide +kernel : ∀ w ∈ wsX70, goodWord w = true) w h⟩
theorem inX8 : ∀ w ∈ wsX80, w ∈ pw_all := fun w h => List.mem_filter.mpr ⟨(by decide +kernel : ∀ w ∈ wsX80, w ∈ lw_tbl) w h, (by decide +kernel : ∀ w ∈ wsX80, goodWord w = true) w h⟩
theorem inX9 : ∀ w ∈ wsX90, w ∈ pw_all := fun w h => List.mem_filter.mpr ⟨(by decide +kernel : ∀ w ∈ wsX90, w ∈ lw_tbl) w h, (by decide +kernel : ∀ w ∈ wsX90, goodWord w = true) w h⟩
theorem inX10 : ∀ w ∈ wsX100, w ∈ pw_all := fun w h => List.mem_filter.mpr ⟨(by decide +kernel : ∀ w ∈ wsX100, w ∈ lw_tbl) w h, (by decide +kernel : ∀ w ∈ wsX100, goodWord w = true) w h⟩
