def rr_cells : Array Value := (rr_scr.map Value.int).toArray
def rr_about : State := start1.aboutOf rr_cells
def rr_vm : Cond → Bool
  | .tt => true
  | .code .. => true
  | .codeWith .. => true
  | .codeSync .. => true
  | .static .. => true
  | .instanceMethod .. => true
  | .native .. => true
  | .initialized .. => true
  | .methodLink .. => true
  | .fieldLink .. => true
  | .classLink .. => true
  | .methodLinkNest .. => true
  | .fieldLinkNest .. => true
  | .constant .. => true
  | .constantLong .. => true
  | .constantFloat .. => true
  | .constantDouble .. => true
  | .declares .. => true
  | .publicMethod .. => true
  | .privateMethod .. => true
  | .unhidden .. => true
  | .castable .. => true
  | .interfaceMethod .. => true
  | .interfaceEntry .. => true
  | .selects .. => true
  | .soleField .. => true
  | .lays .. => true
  | .laysFinal .. => true
  | .superclass .. => true
  | .sameMethod .. => true
  | .sameField .. => true
  | .stringRef .. => true
  | .instantiable .. => true
  | .arrayClass .. => true
  | .arrayOver .. => true
  | _ => false
theorem rr_vm_eq {A : Array Value} {U V : State} (v : Vm) : ∀ c : Cond, rr_vm c = true → c.before A (U.setVm v) = c.before A (V.setVm v) := by
  intro c hc
  cases c <;> first | rfl | (simp [rr_vm] at hc)
theorem rr_move {A : Array Value} {s t : State} (hv : t.vm = s.vm) {c : Cond} (hc : rr_vm c = true) (h : c.before A s = true) : c.before A t = true := by
  have h2 := rr_vm_eq (A := A) (U := t) (V := s) s.vm c hc
  have h3 : t.setVm s.vm = t := by rw [← hv]; rfl
  have h4 : s.setVm s.vm = s := rfl
  rw [h3, h4] at h2
  rw [h2]
  exact h
set_option maxRecDepth 16384 in
theorem rr_all : (Cond.code x code maxLocals ret :: tables_1).all (fun c => rr_vm c || c.before start1.args0 rr_about) = true := by decide +kernel
theorem rr_words : ∀ c ∈ (Cond.code x code maxLocals ret :: tables_1), c.before start1.args0 rr_about = true := by
  intro c hc
  rcases Bool.or_eq_true_iff.mp (List.all_eq_true.mp rr_all c hc) with h | h
  · exact rr_move (s := start1.about) (t := rr_about) (show rr_about.vm = start1.about.vm from rfl) h (start1.words c hc)
  · exact h
