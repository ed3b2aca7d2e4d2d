/-! a start with this script: the printed witness's own classes and statics, its heap's first cell the script; the printed launch admits a machine with this much room -/
def start9_about : State := start1.aboutOf (zq_s.map Value.int).toArray
def start9_e : Env := launch0.env 0 2000000 25000000
set_option maxRecDepth 100000 in
theorem start9_rest : ((Jvm.Cond.code x code maxLocals ret :: tables_1).filter (fun c => !c.onTables)).all (fun c => c.before start1.args0 start9_about) = true := by decide +kernel
set_option maxRecDepth 100000 in
theorem s9_vm (a b : Array Value) : (start1.aboutOf a).vm = (start1.aboutOf b).vm := rfl
theorem start9_words : ∀ c ∈ (Jvm.Cond.code x code maxLocals ret :: tables_1), c.before start1.args0 start9_about = true := fun c hc => by
  cases hq : c.onTables with
  | true => exact va_tabs hq (s9_vm start1.cells0 (zq_s.map Value.int).toArray) (start1.words c hc)
  | false => exact List.all_eq_true.mp start9_rest c (List.mem_filter.mpr ⟨hc, by simp [hq]⟩)
set_option maxRecDepth 100000 in
theorem s9_arr (a : Array Value) : (start1.aboutOf a).arrayAt? 0 = some { cls := 53, slots := a, vm := .none } := rfl
set_option maxRecDepth 100000 in
theorem s9_isArr (a : Array Value) : (start1.aboutOf a).isArrayOf { cls := 53, slots := a, vm := .none } .int := ⟨fun k h => (by cases h), _, rfl, _, rfl⟩
theorem s9_ints (xs : List Int32) (h : xs.length < 2 ^ 31) : (start1.aboutOf (xs.map Value.int).toArray).IntsAt 0 xs := ⟨_, s9_arr _, by simp, s9_isArr _, h⟩
theorem start9_ints : start9_about.IntsAt 0 zq_s := s9_ints zq_s (by rw [zq_len]; decide)
theorem s9_arg (s : State) (idx : List Nat) : (Term.arg 0).eval start1.args0 s none idx s = some (.ref 0) := rfl
theorem s9_rest1 {s : State} {xs : List Int32} (hI : s.IntsAt 0 xs) : rest_1_c.before start1.args0 s = true := by
  have h1 : (Cond.isInt (Term.length (Term.arg 0))).value start1.args0 s none s [] = some true := by
    show ((Term.length (Term.arg 0)).eval start1.args0 s none [] s).map _ = some true
    rw [hI.length_eval (s9_arg s [])]
    rfl
  have h2 : (Cond.all (Term.arg 0) (Cond.isInt (Term.elem (Term.arg 0) (Term.index 0)))).value start1.args0 s none s [] = some true := by
    refine hI.all_value (s9_arg s []) (fun k hk => ?_)
    show ((Term.elem (Term.arg 0) (Term.index 0)).eval start1.args0 s none [k] s).map _ = some true
    rw [hI.elem_nat (s9_arg s [k]) (i := Term.index 0) (k := k) rfl hk]
    rfl
  rw [show rest_1_c = Cond.and (Cond.isInt (Term.length (Term.arg 0))) (Cond.all (Term.arg 0) (Cond.isInt (Term.elem (Term.arg 0) (Term.index 0)))) from rfl, Cond.before_and]
  have e1 : (Cond.isInt (Term.length (Term.arg 0))).before start1.args0 s = true := by
    show ((Cond.isInt (Term.length (Term.arg 0))).value start1.args0 s none s [] == some true) = true
    rw [h1]
    rfl
  have e2 : (Cond.all (Term.arg 0) (Cond.isInt (Term.elem (Term.arg 0) (Term.index 0)))).before start1.args0 s = true := by
    show ((Cond.all (Term.arg 0) (Cond.isInt (Term.elem (Term.arg 0) (Term.index 0)))).value start1.args0 s none s [] == some true) = true
    rw [h2]
    rfl
  rw [e1, e2]
  rfl
set_option maxRecDepth 100000 in
theorem start9_true : start9_about.slotsTrue = true := by decide +kernel
set_option maxRecDepth 100000 in
theorem start9_room : start9_about.hasRoom start9_e.platform room9 = true := State.hasRoom_of (by decide +kernel) (by decide +kernel) (by decide +kernel) (by decide +kernel) (by decide +kernel) start9_true (by decide +kernel)
set_option maxRecDepth 100000 in
theorem start9_room1 : start9_about.hasRoom start9_e.platform room_1 = true := State.hasRoom_of (by decide +kernel) (by decide +kernel) (by decide +kernel) (by decide +kernel) (by decide +kernel) start9_true (by decide +kernel)
set_option maxRecDepth 100000 in
theorem start9_applies : (headSpec (Jvm.Cond.code x code maxLocals ret :: tables_1) room_1).applies x start9_e.platform start9_about = true := (Spec.applies_iff rfl).mpr ⟨rfl, rfl, rfl, by decide +kernel, by decide +kernel, by decide +kernel, start9_room1, atoms_intro start9_words⟩
set_option maxRecDepth 100000 in
theorem start9_args : argsFit start9_about.vm ⟨0, 0⟩ start1.args0 = true := by decide +kernel
set_option maxRecDepth 100000 in
theorem s9_fs (a b : Array Value) : (start1.aboutOf a).fitsSlot = (start1.aboutOf b).fitsSlot := rfl
theorem s9_cf (a b : Array Value) (c : Cell) : cellFits (start1.aboutOf a) c = cellFits (start1.aboutOf b) c := by
  unfold cellFits
  rw [s9_fs a b]
set_option maxRecDepth 100000 in
theorem s9_fitInt (a : Array Value) (i : Nat) (k : Int32) : (start1.aboutOf a).fitsSlot 53 .none i (.int k) = true := rfl
theorem s9_fit0 (a : Array Value) (xs : List Int32) : cellFits (start1.aboutOf a) { cls := 53, slots := (xs.map Value.int).toArray, vm := .none } = true := by
  unfold cellFits
  apply List.all_eq_true.mpr
  intro i hi
  cases hq : ((xs.map Value.int).toArray)[i]? with
  | none => simp only [hq]
  | some v =>
    have hk : ∃ k : Int32, v = .int k := by
      simp at hq
      obtain ⟨k, _, h⟩ := hq
      exact ⟨k, h.symm⟩
    obtain ⟨k, rfl⟩ := hk
    simp only [hq]
    exact s9_fitInt a i k
set_option maxRecDepth 100000 in
theorem s9_tail : (start1.about.heap.toList.tail).all (cellFits start1.about) = true := by decide +kernel
set_option maxRecDepth 100000 in
theorem s9_heap (a : Array Value) : (start1.aboutOf a).heap.toList = { cls := 53, slots := a, vm := .none } :: start1.about.heap.toList.tail := rfl
theorem s9_all (h : Array Cell) (p : Cell → Bool) (hp : h.toList.all p = true) : h.all p = true := Array.all_eq_true_iff_forall_mem.mpr (fun c hc => List.all_eq_true.mp hp c (by simpa using hc))
theorem start9_heap : heapFits start9_about = true := by
  unfold heapFits
  refine s9_all _ _ ?_
  rw [show start9_about.heap.toList = { cls := 53, slots := (zq_s.map Value.int).toArray, vm := .none } :: start1.about.heap.toList.tail from s9_heap _, List.all_cons]
  rw [show cellFits start9_about { cls := 53, slots := (zq_s.map Value.int).toArray, vm := .none } = true from s9_fit0 _ zq_s, Bool.true_and]
  rw [show cellFits start9_about = cellFits start1.about from funext fun c => s9_cf _ _ c]
  exact s9_tail
set_option maxRecDepth 100000 in
theorem start9_pre : (Jvm.Cond.and given_1 narrow_1).before start1.args0 start9_about = true := by decide +kernel
/-- THE ROW IS FALSE -/
theorem row_is_false : ¬ (Claimed_1_1 ∧ Claimed_1_2) := fun h =>
  zq_no (l := launch0) (p := start1.p0) (e := start9_e) (s := start9_about) (m := ⟨0, 0⟩) (b := 0) (below := Lib.HandBits.below0) rfl lists_1 (launch0.admits_env _ _ _) fairChoices_fair.cas fairChoices_fair.clock rfl start9_args start9_heap start9_applies trivial (s9_rest1 start9_ints) start9_pre start9_room start9_ints h.1
