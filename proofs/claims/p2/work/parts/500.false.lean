/-! a start with this script: the printed witness's own classes and statics, its heap's first cell the script; the printed launch admits a machine with this much room -/
def start9_about : State := start1.aboutOf (zq_s.map Value.int).toArray
def start9_e : Env := launch0.env 0 900000 9500000
set_option maxRecDepth 100000 in
theorem start9_rest : ((Jvm.Cond.code x code maxLocals ret :: tables_1).filter (fun c => !c.onTables)).all (fun c => c.before start1.args0 start9_about) = true := by decide +kernel
theorem start9_words : ∀ c ∈ (Jvm.Cond.code x code maxLocals ret :: tables_1), c.before start1.args0 start9_about = true := fun c hc => by
  cases hq : c.onTables with
  | true => exact va_tabs hq (show start1.about.vm = start9_about.vm from rfl) (start1.words c hc)
  | false => exact List.all_eq_true.mp start9_rest c (List.mem_filter.mpr ⟨hc, by simp [hq]⟩)
theorem start9_ints : start9_about.IntsAt 0 zq_s := ⟨{ cls := 53, slots := (zq_s.map Value.int).toArray, vm := .none }, rfl, by simp, ⟨fun k h => by cases h, _, rfl, _, rfl⟩, by rw [zq_len]; decide⟩
set_option maxRecDepth 100000 in
theorem start9_true : start9_about.slotsTrue = true := by decide +kernel
set_option maxRecDepth 100000 in
theorem start9_room : start9_about.hasRoom start9_e.platform room9 = true := State.hasRoom_of (by decide +kernel) (by decide +kernel) (by decide +kernel) (by decide +kernel) (by decide +kernel) start9_true (by decide +kernel)
set_option maxRecDepth 100000 in
theorem start9_room1 : start9_about.hasRoom start9_e.platform room_1 = true := State.hasRoom_of (by decide +kernel) (by decide +kernel) (by decide +kernel) (by decide +kernel) (by decide +kernel) start9_true (by decide +kernel)
set_option maxRecDepth 100000 in
theorem start9_applies : (headSpec (Jvm.Cond.code x code maxLocals ret :: tables_1) room_1).applies x start9_e.platform start9_about = true := (Spec.applies_iff rfl).mpr ⟨rfl, rfl, rfl, by decide +kernel, by decide +kernel, by decide +kernel, start9_room1, atoms_intro start9_words⟩
set_option maxRecDepth 100000 in
theorem start9_fit : argsFit start9_about.vm ⟨0, 0⟩ start1.args0 = true ∧ heapFits start9_about = true := ⟨by decide +kernel, by decide +kernel⟩
set_option maxRecDepth 100000 in
theorem start9_pre : rest_1_c.before start1.args0 start9_about = true ∧ (Jvm.Cond.and given_1 narrow_1).before start1.args0 start9_about = true := ⟨by decide +kernel, by decide +kernel⟩
/-- THE ROW IS FALSE -/
theorem row_is_false : ¬ (Claimed_1_1 ∧ Claimed_1_2) := fun h =>
  zq_no (l := launch0) (p := start1.p0) (e := start9_e) (s := start9_about) (m := ⟨0, 0⟩) (b := 0) (below := Lib.HandBits.below0) rfl lists_1 (launch0.admits_env _ _ _) fairChoices_fair.cas fairChoices_fair.clock rfl start9_fit.1 start9_fit.2 start9_applies trivial start9_pre.1 start9_pre.2 start9_room start9_ints h.1
