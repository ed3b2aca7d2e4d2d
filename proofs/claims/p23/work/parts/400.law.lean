set_option maxHeartbeats 4000000 in
theorem zq_walk (l : Launch) (hflags : l.flags = flags0) (b : Addr) : MetFree l x (headSpec (Jvm.Cond.code x code maxLocals ret :: tables_1) room9) (fun args s => args = #[.ref b] ∧ s.IntsAt b zq_s ∧ (Jvm.Cond.and given_1 narrow_1).before args s = true) (fun _ _ _ _ _ => True) (fun _ s o t => o = .returned (some (.int 1)) ∧ s.heap.size + 1239837 ≤ t.heap.size) := by
  refine MetFree.of_bodyS (code := code) (maxLocals := maxLocals) (ret := ret) (by decide) ?_ ?_
  · intro args s m h hn
    obtain ⟨meth, c, h1, h2, h3, h4, h5, h6, -, -⟩ := Cond.code_spec hn (atoms_spec (ws := Jvm.Cond.code x code maxLocals ret :: tables_1) h _ List.mem_cons_self)
    exact ⟨meth, c, h1, h2, h3, h4, h5, h6⟩
  · intro p e s m args below meth c s₁ B hml0 hP _
    obtain ⟨rfl, hx, hgv⟩ := hP
    obtain ⟨scr, harrAt, hlist, hof, hsmall⟩ := hx
    obtain ⟨hcb, hkn, -, -⟩ := State.arrayAt?_spec harrAt
    have hown : s.vm.findClass R_law = some m.cls := findClass_of_methodNamed B.named
    have hts0 : ∀ c ∈ (Jvm.Cond.code x code maxLocals ret :: tables_1), c.before #[Value.ref b] s = true := atoms_spec (ws := Jvm.Cond.code x code maxLocals ret :: tables_1) B.pre
    have hts : ∀ w ∈ lw_tbl, w.before #[Value.ref b] s = true := k2_hts_sels lw_privs (fun w hw => hts0 w (List.mem_cons_of_mem _ hw)) lw_privs_ok
    have hml : c.maxLocals = 9 := B.maxLocals_eq (hts0 _ List.mem_cons_self)
    have X₀ : Stand p l e room9 s m #[Value.ref b] below meth c s₁ [] 0 0 := Stand.of_body B
    have hh0 : s₁.heap = s.heap := by rw [B.state]; rfl
    have hsz : scr.slots.size = zq_s.length := by rw [← Array.length_toList, hlist, List.length_map]
    have hval : ∀ j : Nat, j < zq_s.length → scr.slots[j]? = some (.int (zq_s.getD j 0)) := fun j hj => by
      rw [← Array.getElem?_toList, hlist]
      simp [hj]
    have hbl : b < s.heap.size := (Array.getElem?_eq_some_iff.mp hcb).1
    have hX : va_X b 2540 (fun j => zq_s.getD j 0) s s.heap := ⟨scr, hcb, hof, hkn, hsz.trans zq_len, fun j hj => hval j (by rw [zq_len]; exact hj)⟩
    have K : W p l e room9 s m #[Value.ref b] below meth c s₁.heap [] 0 0 (zq_Z below s) (entryFrame m ([Value.ref b] : List Value).toArray 9) := by
      rw [hh0]
      exact zq_start l hflags zq_get ⟨B.exec, B.bytes, B.returns, hml, hown, hts, hX, hbl, B.notSynchronized, hgv⟩
    obtain ⟨t, a1, o, b1, b2, b3⟩ := K s₁ rfl X₀
    exact ⟨t, o, a1, b1, b2, b3⟩
set_option maxHeartbeats 4000000 in
/-- at every start with this script, on every machine that the launch admits and whose room is large enough, what the row claims does not hold -/
theorem zq_no {l : Launch} {p : Program} {e : Env} {s : State} {m : MethodId} {b : Addr} {below : List Frame} (hfl : l.flags = flags0) (hL : Lists l classFile x code maxLocals ret tables_1 room_1) (had : l.admits e) (hcas : FairCas e.choices) (hclk : FairClock e.choices) (hfr : s.frames = Frame.invoking m #[.ref b] :: below) (hfit : argsFit s.vm m #[.ref b] = true) (hheap : heapFits s = true)
    (happ : (headSpec (Jvm.Cond.code x code maxLocals ret :: tables_1) room_1).applies x e.platform s = true) (hcalls : Calls_1 p.tables e #[.ref b] s) (hrest : rest_1 p.tables e #[.ref b] s) (hpre : Pre_1 p.tables e #[.ref b] s) (hroom : s.hasRoom e.platform room9 = true) (hZ : s.IntsAt b zq_s) : ¬ Claimed_1_1 := by
  intro hA
  obtain ⟨k, q, hin, -, hend, hpost⟩ := hA l hfl hL trivial p e had hcas hclk s m _ below hfr hfit hheap happ ⟨hcalls, hrest, hpre⟩
  have happ9 : (headSpec (Jvm.Cond.code x code maxLocals ret :: tables_1) room9).appliesLoose x e.platform s = true := by
    obtain ⟨a1, a2, a3, a4, a5, a6, -, a8⟩ := (Spec.appliesLoose_iff hfr).mp ((Spec.applies_iff_loose hfr).mp happ).1
    exact (Spec.appliesLoose_iff hfr).mpr ⟨a1, a2, a3, a4, a5, a6, hroom, a8⟩
  obtain ⟨n, o, h1, h2, h3, ho, hg⟩ := zq_walk l hfl b p e had hcas hclk s m _ below hfr happ9 ⟨rfl, hZ, hpre⟩ trivial
  have hnk : n = k := by
    rcases Nat.lt_trichotomy n k with h | h | h
    · exact absurd (hin n h) h3.not_within
    · exact h
    · exact absurd (h1 k h) hend.not_within
  subst hnk
  obtain ⟨-, ⟨-, -, -, -, h5, -⟩, -⟩ := hpost
  have h6 : (stepsAlone p.tables e n s).heap.size ≤ s.heap.size + 1239836 := h5
  omega
