/-! the same joins with less to read: no list typed that Lean knows already, no number twice told by a Bool -/
def nb : List Nat → Bool
  | [] => true
  | a :: l => l.all (fun b => !(Nat.beq a b)) && nb l
theorem nb_nd : ∀ l : List Nat, nb l = true → va_nd l = true := by
  intro l
  induction l with
  | nil => intro _; rfl
  | cons a l ih =>
    intro h
    simp only [nb, Bool.and_eq_true] at h
    simp only [va_nd, Bool.and_eq_true, decide_eq_true_eq]
    refine ⟨fun hm => ?_, ih h.2⟩
    have h1 : (!(Nat.beq a a)) = true := List.all_eq_true.mp h.1 a hm
    rw [Nat.beq_refl] at h1
    exact absurd h1 (by decide)
theorem fm_map {α β : Type} {f : α → Option β} : ∀ (l : List α) (w : List β), l.map f = w.map some → l.filterMap f = w := by
  intro l
  induction l with
  | nil =>
    intro w h
    cases w with
    | nil => rfl
    | cons b w => simp at h
  | cons a l ih =>
    intro w h
    cases w with
    | nil => simp at h
    | cons b w =>
      simp only [List.map_cons, List.cons.injEq] at h
      rw [List.filterMap_cons_some h.1, ih w h.2]
theorem pc_M {G : va_G} {ws wc : va_W} {tys tc : List (ClassId × FieldType)} {z : XZ} {A : Nat → Prop} {s : State} {H : Heap} {locs : List Loc} {l : Launch} {y : MethodName} {wds : List Cond} {rm : Room} {av : List Value} {Qc : Array Value → State → Outcome → State → Prop} {mc ms : Nat}
    (_hM : Met l y wds rm (va_Pc av (PC G wc tc H.size z)) Qc mc ms (va_A wc H.size)) (hP : va_P G xCl ws H) (hD : va_D A ws) (hK : va_K G xCl tys s) (hS : va_S A s.heap H locs) (hX : XE z A s s.heap) (hT : XT s) (hA : ∀ q : Nat, s.heap.size ≤ q → A q) (is it : List Nat) (h2 : nb is = true) (h3 : is.map (fun i => ws[i]?) = wc.map some) (h4 : it.filterMap (fun i => tys[i]?) = tc) :
    (∀ q, va_A wc H.size q → A q) ∧ ∀ U : State, U.heap = H → s.WarmedH U.vm → PC G wc tc H.size z U := by
  have hF := va_free hD hS hA is h3
  exact ⟨hF, fun U hU hW => pc_mk hP hD hK hS hX hT is it (fm_map is wc h3) (nb_nd is h2) h3 h4 hF hU hW⟩
theorem pq_mk2 {G : va_G} {ws wc : va_W} {tys tc : List (ClassId × FieldType)} {A : Nat → Prop} {s t : State} {H : Heap} (hP : va_P G xCl ws H) (hD : va_D A ws) (hK : va_K G xCl tys s) (is it : List Nat) (h2 : nb is = true) (h3 : is.map (fun i => ws[i]?) = wc.map some) (h4 : it.filterMap (fun i => tys[i]?) = tc) (ht : t.heap = H) (hW : s.WarmedH t.vm) : PQ G wc tc A t :=
  pq_mk hP hD hK is it (fm_map is wc h3) (nb_nd is h2) h3 h4 ht hW
theorem vd_as {G : va_G} {ws ws' : va_W} {A : Nat → Prop} {H : Heap} (_hP : va_P G xCl ws H) (hD : va_D A ws') (h : ws' = ws) : va_D A ws := by
  subst h
  exact hD
theorem at_C {ws wc : va_W} {is : List Nat} (hs : is.map (fun i => ws[i]?) = wc.map some) (k : Nat) (q : Nat × va_E) (hq : wc[k]? = some q) : ∃ i, is[k]? = some i ∧ ws[i]? = some q := by
  have h1 : (is.map (fun i => ws[i]?))[k]? = some (some q) := by rw [hs, List.getElem?_map, hq]; rfl
  rw [List.getElem?_map] at h1
  cases hi : is[k]? with
  | none => rw [hi] at h1; cases h1
  | some i => rw [hi] at h1; exact ⟨i, rfl, Option.some.inj h1⟩
/-- behind a call that left the callee's cells as they were -/
theorem pq_keep {A0 : Nat → Prop} {G : va_G} {ws wc : va_W} {t1 : List (ClassId × FieldType)} {t : State} {H H1 : Heap} (hP : va_P G xCl ws H) (hD : va_D A0 ws) (isC : List Nat) (hC : isC.map (fun i => ws[i]?) = wc.map some)
    (hk : ∀ q : Nat, q < H.size → ¬ va_A wc H.size q → H1[q]? = H[q]?) (hB : PQ G wc t1 (va_A wc H.size) t) (ht : t.heap = H1) : va_P G xCl ws H1 := by
  obtain ⟨hP1, -, -⟩ := hB
  rw [ht] at hP1
  intro k q hq
  have hl := (hP k q hq).lt
  by_cases hm : va_A wc H.size q.1
  · rcases hm with ⟨k2, e, h⟩ | h
    · obtain ⟨i, -, h2⟩ := at_C hC k2 (q.1, e) h
      have hij := hD.1 k i q (q.1, e) hq h2 rfl
      subst hij
      have he : (q.1, e) = q := Option.some.inj (h2.symm.trans hq)
      have h3 := hP1 k2 (q.1, e) h
      rw [he] at h3
      exact h3
    · omega
  · exact (hP k q hq).kept (hk q.1 hl hm)
def pf : va_W → List Nat → Nat → va_W
  | [], _, _ => []
  | q :: ws, is, k => bif is.any (Nat.beq k) then pf ws is (k + 1) else q :: pf ws is (k + 1)
theorem pf_sub (is : List Nat) : ∀ (ws : va_W) (k : Nat), (pf ws is k).Sublist ws := by
  intro ws
  induction ws with
  | nil => intro k; exact List.Sublist.slnil
  | cons q ws ih =>
    intro k
    cases hb : is.any (Nat.beq k) with
    | true =>
      have e : pf (q :: ws) is k = pf ws is (k + 1) := by simp only [pf, hb, cond_true]
      rw [e]
      exact (ih (k + 1)).cons q
    | false =>
      have e : pf (q :: ws) is k = q :: pf ws is (k + 1) := by simp only [pf, hb, cond_false]
      rw [e]
      exact (ih (k + 1)).cons₂ q
theorem pf_in (is : List Nat) : ∀ (ws : va_W) (k j : Nat) (q : Nat × va_E), (pf ws is k)[j]? = some q → ∃ i, ws[i]? = some q ∧ is.any (Nat.beq (k + i)) = false := by
  intro ws
  induction ws with
  | nil => intro k j q h; simp [pf] at h
  | cons p ws ih =>
    intro k j q h
    cases hb : is.any (Nat.beq k) with
    | true =>
      have e : pf (p :: ws) is k = pf ws is (k + 1) := by simp only [pf, hb, cond_true]
      rw [e] at h
      obtain ⟨i, h1, h2⟩ := ih _ _ _ h
      refine ⟨i + 1, h1, ?_⟩
      rw [show k + (i + 1) = k + 1 + i by omega]
      exact h2
    | false =>
      have e : pf (p :: ws) is k = p :: pf ws is (k + 1) := by simp only [pf, hb, cond_false]
      rw [e] at h
      cases j with
      | zero => exact ⟨0, h, hb⟩
      | succ j =>
        obtain ⟨i, h1, h2⟩ := ih _ _ _ h
        refine ⟨i + 1, h1, ?_⟩
        rw [show k + (i + 1) = k + 1 + i by omega]
        exact h2
theorem sub_nd {w ws : va_W} (hs : w.Sublist ws) (h : ∀ (i j : Nat) (p q : Nat × va_E), ws[i]? = some p → ws[j]? = some q → p.1 = q.1 → i = j) : ∀ (i j : Nat) (p q : Nat × va_E), w[i]? = some p → w[j]? = some q → p.1 = q.1 → i = j := by
  have h1 : ws.Pairwise (fun p q => p.1 ≠ q.1) := by
    refine List.pairwise_iff_getElem.mpr (fun i j hi hj hij he => ?_)
    have h9 := h i j ws[i] ws[j] (List.getElem?_eq_some_iff.mpr ⟨hi, rfl⟩) (List.getElem?_eq_some_iff.mpr ⟨hj, rfl⟩) he
    omega
  have h2 := List.Pairwise.sublist hs h1
  intro i j p q hi hj he
  obtain ⟨li, ei⟩ := List.getElem?_eq_some_iff.mp hi
  obtain ⟨lj, ej⟩ := List.getElem?_eq_some_iff.mp hj
  rcases Nat.lt_trichotomy i j with c | c | c
  · exact (List.pairwise_iff_getElem.mp h2 i j li lj c (by rw [ei, ej]; exact he)).elim
  · exact c
  · exact (List.pairwise_iff_getElem.mp h2 j i lj li c (by rw [ei, ej]; exact he.symm)).elim
/-- behind a call: the caller's other cells and the callee's -/
theorem pq_jn {A0 : Nat → Prop} {G : va_G} {ws wc w1 wz : va_W} {tys t1 tz : List (ClassId × FieldType)} {s t : State} {H H1 : Heap} (hP : va_P G xCl ws H) (hD : va_D A0 ws) (hK : va_K G xCl tys s) (isC it : List Nat) (hC : isC.map (fun i => ws[i]?) = wc.map some)
    (hk : ∀ q : Nat, q < H.size → ¬ va_A wc H.size q → H1[q]? = H[q]?) (hF : ∀ q, va_A wc H.size q → A0 q) (hB : PQ G w1 t1 (va_A wc H.size) t) (ht : t.heap = H1) (hvm : s.vm.Alike t.vm) (hz : pf ws isC 0 ++ w1 = wz) (hy : it.filterMap (fun i => tys[i]?) ++ t1 = tz) : va_P G xCl wz H1 ∧ va_D A0 wz ∧ va_K G xCl tz s := by
  obtain ⟨hP1, hK1, hD1⟩ := hB
  rw [ht] at hP1
  have ap : ∀ (j : Nat) (q : Nat × va_E), (pf ws isC 0)[j]? = some q → (∃ i : Nat, ws[i]? = some q) ∧ q.1 < H.size ∧ ¬ va_A wc H.size q.1 := by
    intro j q hq
    obtain ⟨i, h1, h2⟩ := pf_in isC ws 0 j q hq
    have hl := (hP i q h1).lt
    refine ⟨⟨i, h1⟩, hl, fun h => ?_⟩
    rcases h with ⟨k2, e, h⟩ | h
    · obtain ⟨i2, h3, h4⟩ := at_C hC k2 (q.1, e) h
      have hij := hD.1 i i2 q (q.1, e) h1 h4 rfl
      subst hij
      rw [Nat.zero_add] at h2
      have h5 : isC.any (Nat.beq i) = true := List.any_eq_true.mpr ⟨i, List.mem_of_getElem? h3, Nat.beq_refl i⟩
      rw [h5] at h2
      cases h2
    · omega
  subst hz
  subst hy
  refine ⟨va_P.app (fun j q hq => ?_) hP1, va_D.app ⟨sub_nd (pf_sub isC ws 0) hD.1, fun k q hq => ?_⟩ (hD1.weaken (fun k q _ h => hF q.1 h)) (fun i j x y hx hy hxy => ?_), (hK.sub it rfl).app (va_K.moved hvm.symm hK1)⟩
  · obtain ⟨⟨i, h1⟩, g1, g2⟩ := ap j q hq
    exact (hP i q h1).kept (hk q.1 g1 g2)
  · obtain ⟨⟨i, h1⟩, -, -⟩ := ap k q hq
    exact hD.2 i q h1
  · exact (ap i x hx).2.2 (by rw [hxy]; exact hD1.2 j y hy)
