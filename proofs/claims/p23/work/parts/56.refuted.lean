def p23_s : State := start1.aboutOf p23_script
theorem p23_tr {c : Cond} (h1 : c.onTables = true) (h : c.before start1.args0 start1.about = true) : c.before start1.args0 p23_s = true := by
  have e1 : c.before start1.args0 (p23_s.setVm start1.about.vm) = c.before start1.args0 (start1.about.setVm start1.about.vm) := Cond.onTables_vm _ c h1
  have e2 : p23_s.setVm start1.about.vm = p23_s := rfl
  rw [e2, State.setVm_self] at e1
  rw [e1]
  exact h
def p23_off : List Cond := (Cond.code x code maxLocals ret :: tables_1).filter (fun c => !c.onTables)
theorem p23_rest : p23_off.all (fun c => c.before start1.args0 p23_s) = true := by decide +kernel
theorem p23_words : ∀ c ∈ (Cond.code x code maxLocals ret :: tables_1), c.before start1.args0 p23_s = true := by
  intro c hc
  cases hq : c.onTables with
  | true => exact p23_tr hq (start1.words c hc)
  | false => exact List.all_eq_true.mp p23_rest c (List.mem_filter.mpr ⟨hc, by rw [hq]; rfl⟩)
set_option maxRecDepth 16384 in
theorem p23_start : AtStart classFile x code maxLocals ret World_1 tables_1 room_1 Calls_1 rest_1 Pre_1 launch0 start1.p0 start1.e0 p23_s ⟨0, 0⟩ #[Value.ref 0] Lib.HandBits.below0 :=
  ⟨lists_1, trivial, launch0.admits_env _ _ _, launch0.least_env, fairChoices_fair.cas, fairChoices_fair.clock, rfl, by decide +kernel, by decide +kernel,
    (Spec.applies_iff rfl).mpr ⟨rfl, rfl, rfl, by decide +kernel, by decide +kernel, by decide +kernel, launch0.hasRoom_least _ room_1 (by decide +kernel) (by decide +kernel) (by decide +kernel) (by decide +kernel) (by decide +kernel) (by decide +kernel), atoms_intro p23_words⟩,
    trivial, (show rest_1_c.before start1.args0 p23_s = true by decide +kernel), (show (Cond.and given_1 narrow_1).before start1.args0 p23_s = true by decide +kernel)⟩
theorem p23_room : p23_s.hasRoom start1.e0.platform ({ frames := 11, cells := 700, slots := 6000, locals := 209 } : Room) = true := launch0.hasRoom_least p23_s ({ frames := 11, cells := 700, slots := 6000, locals := 209 } : Room) (by decide +kernel) (by decide +kernel) (by decide +kernel) (by decide +kernel) (by decide +kernel) (by decide +kernel)
theorem p23_cell : ∀ cI : ClassId, va_RA p23_s cI .int → p23_s.heap[0]? = some (arrV cI 140 (fun j => .int (p23_xs j))) := by
  intro cI h
  have h2 : va_RA p23_s 18 .int := (by decide +kernel : p23_s.vm.findClass ("[" ++ (FieldType.int).toString) = some 18)
  have e : cI = 18 := z_ncls h h2 rfl
  subst e
  rfl
/-- the claim's first half doesn't hold: at this start the law makes more than 125 cells -/
theorem p23_not : ¬ Claimed_1_1 := p23_at (l := launch0) rfl p23_start p23_room p23_cell p23_x0 p23_x1
/-- what is owed for p23 is refuted -/
theorem p23_refuted : ¬ (Claimed_1_1 ∧ Claimed_1_2) := fun h => p23_not h.1
