def rr_P (b : Addr) (args : Array Value) (s : State) : Prop := args = #[.ref b] ∧ s.IntsAt b rr_scr ∧ (Jvm.Cond.and given_1 narrow_1).before args s = true
def rr_Q (_ : Array Value) (s : State) (o : Outcome) (t : State) : Prop := o = .returned (some (.int 0)) ∨ s.heap.size + 609024 ≤ t.heap.size
theorem rr_len : rr_scr.length = 205 := by decide +kernel
theorem rr_walk (l : Launch) (hl9 : l.stackTraces = false) (b : Addr) : MetFree l x (headSpec (Jvm.Cond.code x code maxLocals ret :: tables_1) rr_R) (rr_P b) (fun _ _ _ _ _ => True) rr_Q := by
  refine MetFree.of_bodyS (code := code) (maxLocals := maxLocals) (ret := ret) (by decide) ?_ ?_
  · intro args s m h hn
    obtain ⟨meth, c, h1, h2, h3, h4, h5, h6, -, -⟩ := Cond.code_spec hn (atoms_spec (ws := Jvm.Cond.code x code maxLocals ret :: tables_1) h _ List.mem_cons_self)
    exact ⟨meth, c, h1, h2, h3, h4, h5, h6⟩
  · intro p e s m args below meth c s₁ B hml0 hP _
    obtain ⟨rfl, hx, hgv⟩ := hP
    obtain ⟨scr, harrAt, hlist, hof, hsmall⟩ := hx
    obtain ⟨hcb, hkn, -, -⟩ := State.arrayAt?_spec harrAt
    have hown : s.vm.findClass R_law = some m.cls := findClass_of_methodNamed B.named
    have hts0 : ∀ c ∈ (Jvm.Cond.code x code maxLocals ret :: tables_1), c.before #[Value.ref b] s = true := atoms_spec (ws := Jvm.Cond.code x code maxLocals ret :: tables_1) B.pre
    have hts : ∀ w ∈ lw_tbl, w.before #[Value.ref b] s = true := k2_hts_sels lw_privs (fun w hw => hts0 w (List.mem_cons_of_mem _ hw)) lw_privs_ok
    have hml : c.maxLocals = 9 := B.maxLocals_eq (hts0 _ List.mem_cons_self)
    have X₀ : Stand p l e rr_R s m #[Value.ref b] below meth c s₁ [] 0 0 := Stand.of_body B
    have hh0 : s₁.heap = s.heap := by rw [B.state]; rfl
    have hsz : scr.slots.size = 205 := by rw [← Array.length_toList, hlist, List.length_map, rr_len]
    have hval : ∀ j : Nat, j < 205 → scr.slots[j]? = some (.int (rr_scr.getD j 0)) := fun j hj => by
      have hj' : j < rr_scr.length := by rw [rr_len]; exact hj
      rw [← Array.getElem?_toList, hlist]
      simp [hj']
    have hbl : b < s.heap.size := (Array.getElem?_eq_some_iff.mp hcb).1
    have hX : va_X b 205 rr_xs s s.heap := ⟨scr, hcb, hof, hkn, hsz, hval⟩
    have K : W p l e rr_R s m #[Value.ref b] below meth c s₁.heap [] 0 0 (rr_Z below s) (entryFrame m ([Value.ref b] : List Value).toArray 9) := by
      rw [hh0]
      exact rr_start l hl9 ⟨B.exec, B.bytes, B.returns, hml, hown, hts, hX, hbl, B.notSynchronized, hgv⟩
    obtain ⟨t, a1, o, b1, b2, b3⟩ := K s₁ rfl X₀
    exact ⟨t, o, a1, b1, b2, b3⟩
set_option maxRecDepth 16384 in
theorem rr_applies : (headSpec (Cond.code x code maxLocals ret :: tables_1) rr_R).applies x start1.e0.platform rr_about = true :=
  (Spec.applies_iff (m := ⟨0, 0⟩) (args := start1.args0) (below := Lib.HandBits.below0) rfl).mpr ⟨rfl, rfl, rfl, by decide +kernel, by decide +kernel, by decide +kernel, launch0.hasRoom_least _ rr_R (by decide +kernel) (by decide +kernel) (by decide +kernel) (by decide +kernel) (by decide +kernel) (by decide +kernel), atoms_intro rr_words⟩
theorem rr_cell : rr_cells.toList = rr_scr.map Value.int := by simp [rr_cells]
set_option maxRecDepth 16384 in
theorem rr_ints (hpre : (Jvm.Cond.and given_1 narrow_1).before start1.args0 rr_about = true) (hr : rest_1_c.before start1.args0 rr_about = true) : rr_about.IntsAt 0 rr_scr := by
  have hs := flat_of_before _ hpre
  have hq := flat_of_before _ hr
  have harr : (Cond.arrayOf (.arg 0) .int).before start1.args0 rr_about = true := hs _ (by decide +kernel)
  have hlen : (Cond.isInt (.length (.arg 0))).before start1.args0 rr_about = true := hq _ (by decide +kernel)
  have hall : (Cond.all (.arg 0) (.isInt (.elem (.arg 0) (.index 0)))).before start1.args0 rr_about = true := hq _ (by decide +kernel)
  obtain ⟨b, xs, hb, hx⟩ := State.ints_of_pre rfl harr hlen hall
  have h0 : b = 0 := by
    have h1 : (some (Value.ref 0) : Option Value) = some (Value.ref b) := (show start1.args0[0]? = some (Value.ref 0) from rfl).symm.trans hb
    injection h1 with h1; injection h1 with h1; exact h1.symm
  subst h0
  obtain ⟨scr, harrAt, hlist, hof, hsmall⟩ := id hx
  obtain ⟨hcb, -, -, -⟩ := State.arrayAt?_spec harrAt
  have hc0 : rr_about.heap[0]? = some { cls := 53, slots := rr_cells, vm := .none } := rfl
  have hsc : scr.slots = rr_cells := by rw [← Option.some.inj (hc0.symm.trans hcb)]
  have hxs : xs = rr_scr := by
    have h2 : xs.map Value.int = rr_scr.map Value.int := by rw [← hlist, hsc]; exact rr_cell
    exact (List.map_inj_right (fun a b h => by injection h)).mp h2
  rw [← hxs]
  exact hx
set_option maxRecDepth 16384 in
theorem rr_atStart : AtStart classFile x code maxLocals ret World_1 tables_1 room_1 Calls_1 rest_1 Pre_1 launch0 start1.p0 start1.e0 rr_about ⟨0, 0⟩ start1.args0 Lib.HandBits.below0 :=
  ⟨lists_1, trivial, launch0.admits_env _ _ _, launch0.least_env, fairChoices_fair.cas, fairChoices_fair.clock, rfl, by decide +kernel, by decide +kernel,
    (Spec.applies_iff rfl).mpr ⟨rfl, rfl, rfl, by decide +kernel, by decide +kernel, by decide +kernel, launch0.hasRoom_least _ room_1 (by decide +kernel) (by decide +kernel) (by decide +kernel) (by decide +kernel) (by decide +kernel) (by decide +kernel), atoms_intro rr_words⟩,
    trivial, (show rest_1_c.before start1.args0 rr_about = true by decide +kernel), (show (Cond.and given_1 narrow_1).before start1.args0 rr_about = true by decide +kernel)⟩
theorem refuted : ¬ (Claimed_1_1 ∧ Claimed_1_2) := by
  rintro ⟨-, h2⟩
  obtain ⟨hL, hW, hadm, hleast, hcas, hclk, hfr, hfit, hheap, happ, hcalls, hrest, hpre⟩ := rr_atStart
  obtain ⟨n, o, hw, hrun, hend, hP, hF⟩ := h2 launch0 rfl hL hW start1.p0 start1.e0 hadm hcas hclk rr_about ⟨0, 0⟩ start1.args0 Lib.HandBits.below0 hfr hfit hheap happ ⟨hcalls, hrest, hpre⟩
  obtain ⟨n', o', hw', hrun', hend', hQ⟩ := rr_walk launch0 (by decide +kernel) 0 start1.p0 start1.e0 hadm hcas hclk rr_about ⟨0, 0⟩ start1.args0 Lib.HandBits.below0 hfr ((Spec.applies_iff_loose hfr).mp rr_applies).1 ⟨rfl, rr_ints hpre hrest, hpre⟩ trivial
  obtain ⟨rfl, rfl⟩ := the_end_unique (f := fun k => stepsAlone start1.p0.tables start1.e0 k rr_about) hw hend hw' hend'
  rcases hQ with rfl | hbig
  · have h3 := Cond.after_iff.mp hP
    rw [show limb_1_2 = Cond.eq .result (.int 1) from rfl, Cond.eq_ints (x := 0) (y := 1) rfl rfl] at h3
    simp at h3
  · have hb : (stepsAlone start1.p0.tables start1.e0 n rr_about).heap.size ≤ rr_about.heap.size + 601024 := hF.1.2.2.2.2.1
    omega
