/-- behind a call that left the callee's cells as they were -/
theorem pq_kp {A0 : Nat → Prop} {G : va_G} {ws wc : va_W} {t1 : List (ClassId × FieldType)} {t : State} {H H1 : Heap} (hB : PQ G wc t1 (va_A wc H.size) t) (hk : ∀ q : Nat, q < H.size → ¬ va_A wc H.size q → H1[q]? = H[q]?) (ht : t.heap = H1) (hP : va_P G xCl ws H) (hD : va_D A0 ws)
    (isC : List Nat) (hC : isC.map (fun i => ws[i]?) = wc.map some) : va_P G xCl ws H1 := by
  obtain ⟨hP1, -, -⟩ := hB
  rw [ht] at hP1
  intro k q hq
  have hl := (hP k q hq).lt
  by_cases hm : va_A wc H.size q.1
  · rcases hm with ⟨k2, e, h⟩ | h
    · obtain ⟨i, -, h2⟩ := at_C hC k2 (q.1, e) h
      have hij := hD.1 k i q (q.1, e) hq h2 rfl
      subst hij
      have he : (q.1, e) = q := Option.some.inj (h2.symm.trans hq)
      have h3 := hP1 k2 (q.1, e) h
      rw [he] at h3
      exact h3
    · omega
  · exact (hP k q hq).kept (hk q.1 hl hm)
theorem pq_jm {A0 : Nat → Prop} {G : va_G} {ws wc w1 wz : va_W} {tys t1 tz : List (ClassId × FieldType)} {s t : State} {H H1 : Heap} (hB : PQ G w1 t1 (va_A wc H.size) t) (hk : ∀ q : Nat, q < H.size → ¬ va_A wc H.size q → H1[q]? = H[q]?) (hF : ∀ q, va_A wc H.size q → A0 q) (ht : t.heap = H1) (hvm : s.vm.Alike t.vm)
    (hP : va_P G xCl ws H) (hD : va_D A0 ws) (hK : va_K G xCl tys s) (isC it : List Nat) (hC : isC.map (fun i => ws[i]?) = wc.map some) (hz : pf ws isC 0 ++ w1 = wz) (hy : it.filterMap (fun i => tys[i]?) ++ t1 = tz) : va_P G xCl wz H1 ∧ va_D A0 wz ∧ va_K G xCl tz s := pq_jn hP hD hK isC it hC hk hF hB ht hvm hz hy
