set_option maxHeartbeats 4000000 in
set_option maxRecDepth 100000 in
theorem x_env {args : Array Value} {s : State} {A : Nat → Prop} (hts0 : ∀ w ∈ lw_tbl, w.before args s = true) (hgv : (Jvm.Cond.and given_1 narrow_1).before args s = true) (hA : ∀ a : Nat, a < s.heap.size → ¬ A a) : ∃ z : XZ, XE z A s s.heap ∧ XT s := by
  have hq := flat_of_before _ hgv
  have hiAL : (Cond.initialized "java/util/ArrayList").before args s = true := hts0 (Cond.initialized RJx4a65c) (List.mem_of_getElem? (i := 58) (by decide +kernel))
  have hiNK : (Cond.initialized "Deltacycle$NetKind").before args s = true := hts0 _ (List.mem_of_getElem? (i := 68) (by decide +kernel))
  have hiIC : (Cond.initialized "java/lang/Integer$IntegerCache").before args s = true := hts0 _ (List.mem_of_getElem? (i := 81) (by decide +kernel))
  have hiTh : (Cond.initialized Bundle.tN).before args s = true := hts0 _ (List.mem_of_getElem? (i := 62) (by decide +kernel))
  obtain ⟨tE, heE, hTE⟩ := va_Tof (tm := .static "java/util/ArrayList" "DEFAULTCAPACITY_EMPTY_ELEMENTDATA" "[Ljava/lang/Object;") (ty := .object "java/lang/Object") (N := 0) (f := fun _ => .null) (by decide) (hq (.arrayOf (.static "java/util/ArrayList" "DEFAULTCAPACITY_EMPTY_ELEMENTDATA" "[Ljava/lang/Object;") (.object "java/lang/Object")) (by decide +kernel)) (va_eqt (z := 0) (hq (.eq (.length (.static "java/util/ArrayList" "DEFAULTCAPACITY_EMPTY_ELEMENTDATA" "[Ljava/lang/Object;")) (.int 0)) (by decide +kernel))) (fun j hj => absurd hj (Nat.not_lt_zero j)) hA
  have h1 : va_Z "java/util/ArrayList" "DEFAULTCAPACITY_EMPTY_ELEMENTDATA" "[Ljava/lang/Object;" (.ref tE) A s s.heap := va_Zref (hts0 _ (List.mem_of_getElem? (i := 119) (by decide +kernel))) hiAL heE hA
  obtain ⟨en, hEn⟩ := va_Enof (E := "Deltacycle$NetKind") (d := "LDeltacycle$NetKind;") (nm := ["INPUT", "GATE", "BUS", "REGISTER"]) (F := []) (args := args) (s := s) (A := A)
    (fun i hi => match i, hi with
      | 0, _ => hts0 _ (List.mem_of_getElem? (i := 267) (by decide +kernel))
      | 1, _ => hts0 _ (List.mem_of_getElem? (i := 789) (by decide +kernel))
      | 2, _ => hts0 _ (List.mem_of_getElem? (i := 692) (by decide +kernel))
      | 3, _ => hts0 _ (List.mem_of_getElem? (i := 269) (by decide +kernel))
      | k + 4, h => absurd h (by simp)) hiNK
    (fun i hi => match i, hi with
      | 0, _ => (hq (.exactly (.static "Deltacycle$NetKind" "INPUT" "LDeltacycle$NetKind;") "Deltacycle$NetKind") (by decide +kernel))
      | 1, _ => (hq (.exactly (.static "Deltacycle$NetKind" "GATE" "LDeltacycle$NetKind;") "Deltacycle$NetKind") (by decide +kernel))
      | 2, _ => (hq (.exactly (.static "Deltacycle$NetKind" "BUS" "LDeltacycle$NetKind;") "Deltacycle$NetKind") (by decide +kernel))
      | 3, _ => (hq (.exactly (.static "Deltacycle$NetKind" "REGISTER" "LDeltacycle$NetKind;") "Deltacycle$NetKind") (by decide +kernel))
      | k + 4, h => absurd h (by simp))
    (fun q hq i hi => nomatch hq)
    (fun i j hi hj hij => match i, j, hi, hj, hij with
      | 0, 0, _, _, h => absurd rfl h
      | 0, 1, _, _, _ => Or.inl (hq (.not (.eq (.static "Deltacycle$NetKind" "INPUT" "LDeltacycle$NetKind;") (.static "Deltacycle$NetKind" "GATE" "LDeltacycle$NetKind;"))) (by decide +kernel))
      | 0, 2, _, _, _ => Or.inl (hq (.not (.eq (.static "Deltacycle$NetKind" "INPUT" "LDeltacycle$NetKind;") (.static "Deltacycle$NetKind" "BUS" "LDeltacycle$NetKind;"))) (by decide +kernel))
      | 0, 3, _, _, _ => Or.inl (hq (.not (.eq (.static "Deltacycle$NetKind" "INPUT" "LDeltacycle$NetKind;") (.static "Deltacycle$NetKind" "REGISTER" "LDeltacycle$NetKind;"))) (by decide +kernel))
      | 1, 0, _, _, _ => Or.inr (hq (.not (.eq (.static "Deltacycle$NetKind" "INPUT" "LDeltacycle$NetKind;") (.static "Deltacycle$NetKind" "GATE" "LDeltacycle$NetKind;"))) (by decide +kernel))
      | 1, 1, _, _, h => absurd rfl h
      | 1, 2, _, _, _ => Or.inr (hq (.not (.eq (.static "Deltacycle$NetKind" "BUS" "LDeltacycle$NetKind;") (.static "Deltacycle$NetKind" "GATE" "LDeltacycle$NetKind;"))) (by decide +kernel))
      | 1, 3, _, _, _ => Or.inr (hq (.not (.eq (.static "Deltacycle$NetKind" "REGISTER" "LDeltacycle$NetKind;") (.static "Deltacycle$NetKind" "GATE" "LDeltacycle$NetKind;"))) (by decide +kernel))
      | 2, 0, _, _, _ => Or.inr (hq (.not (.eq (.static "Deltacycle$NetKind" "INPUT" "LDeltacycle$NetKind;") (.static "Deltacycle$NetKind" "BUS" "LDeltacycle$NetKind;"))) (by decide +kernel))
      | 2, 1, _, _, _ => Or.inl (hq (.not (.eq (.static "Deltacycle$NetKind" "BUS" "LDeltacycle$NetKind;") (.static "Deltacycle$NetKind" "GATE" "LDeltacycle$NetKind;"))) (by decide +kernel))
      | 2, 2, _, _, h => absurd rfl h
      | 2, 3, _, _, _ => Or.inr (hq (.not (.eq (.static "Deltacycle$NetKind" "REGISTER" "LDeltacycle$NetKind;") (.static "Deltacycle$NetKind" "BUS" "LDeltacycle$NetKind;"))) (by decide +kernel))
      | 3, 0, _, _, _ => Or.inr (hq (.not (.eq (.static "Deltacycle$NetKind" "INPUT" "LDeltacycle$NetKind;") (.static "Deltacycle$NetKind" "REGISTER" "LDeltacycle$NetKind;"))) (by decide +kernel))
      | 3, 1, _, _, _ => Or.inl (hq (.not (.eq (.static "Deltacycle$NetKind" "REGISTER" "LDeltacycle$NetKind;") (.static "Deltacycle$NetKind" "GATE" "LDeltacycle$NetKind;"))) (by decide +kernel))
      | 3, 2, _, _, _ => Or.inl (hq (.not (.eq (.static "Deltacycle$NetKind" "REGISTER" "LDeltacycle$NetKind;") (.static "Deltacycle$NetKind" "BUS" "LDeltacycle$NetKind;"))) (by decide +kernel))
      | 3, 3, _, _, h => absurd rfl h
      | k + 4, _, h, _, _ => absurd h (by simp)
      | 0, k + 4, _, h, _ => absurd h (by simp)
      | 1, k + 4, _, h, _ => absurd h (by simp)
      | 2, k + 4, _, h, _ => absurd h (by simp)
      | 3, k + 4, _, h, _ => absurd h (by simp)
      ) hA
  have hl256 := va_eqt (z := 256) (hq (.eq (.length (.static "java/lang/Integer$IntegerCache" "cache" "[Ljava/lang/Integer;")) (.int 256)) (by decide +kernel))
  obtain ⟨bx, hC, hel⟩ := vb_Cof (st := .static "java/lang/Integer$IntegerCache" "cache" "[Ljava/lang/Integer;") (A := A) rfl hl256 (hq (.all (.static "java/lang/Integer$IntegerCache" "cache" "[Ljava/lang/Integer;") (.and (.exactly (.elem (.static "java/lang/Integer$IntegerCache" "cache" "[Ljava/lang/Integer;") (.index 0)) "java/lang/Integer") (.eq (.field (.elem (.static "java/lang/Integer$IntegerCache" "cache" "[Ljava/lang/Integer;") (.index 0)) "java/lang/Integer" "value" "I") (.sub (.index 0) (.int 128))))) (by decide +kernel)) hA
  obtain ⟨tC, heC, hTC⟩ := va_Tof (tm := .static "java/lang/Integer$IntegerCache" "cache" "[Ljava/lang/Integer;") (ty := .object "java/lang/Integer") (N := 256) (f := fun k => .ref (bx k)) (by decide) (hq (.arrayOf (.static "java/lang/Integer$IntegerCache" "cache" "[Ljava/lang/Integer;") (.object "java/lang/Integer")) (by decide +kernel)) hl256 hel hA
  have hZc : va_Z "java/lang/Integer$IntegerCache" "cache" "[Ljava/lang/Integer;" (.ref tC) A s s.heap := va_Zref (hts0 _ (List.mem_of_getElem? (i := 1241) (by decide +kernel))) hiIC heC hA
  have hZh : va_Z "java/lang/Integer$IntegerCache" "high" "I" (.int 127) A s s.heap := va_Zof (hts0 _ (List.mem_of_getElem? (i := 1239) (by decide +kernel))) hiIC (va_eqt (z := 127) (hq (.eq (.static "java/lang/Integer$IntegerCache" "high" "I") (.int 127)) (by decide +kernel))) hA
  have hU : vx_Zq Bundle.tN "UNASSIGNED_STACK" Bundle.steD A s s.heap := vx_Zqof (hts0 _ (List.mem_of_getElem? (i := 399) (by decide +kernel))) hiTh (hq (.isRef (.static Bundle.tN "UNASSIGNED_STACK" Bundle.steD)) (by decide +kernel)) hA
  have hN : vx_Zq Bundle.tN "SUPPRESSED_SENTINEL" Bundle.listD A s s.heap := vx_Zqof (hts0 _ (List.mem_of_getElem? (i := 401) (by decide +kernel))) hiTh (hq (.isRef (.static Bundle.tN "SUPPRESSED_SENTINEL" Bundle.listD)) (by decide +kernel)) hA
  refine ⟨(tE, en, bx, tC), ⟨⟨h1, hTE⟩, hEn, ⟨hC, hZh, hZc, hTC⟩, ⟨hU, hN⟩⟩, ?_, ⟨?_, ?_⟩, ?_, ?_, ?_, ?_, ?_, ?_, ?_⟩
  · intro q h
    simp only [xStr, List.mem_cons, List.not_mem_nil, or_false] at h
    rcases h with rfl | rfl | rfl | rfl | rfl | rfl
    · obtain ⟨a, _, _, _, q1, _⟩ := Cond.exactly_spec (hq (.exactly (.string "Deltacycle" 91) "java/lang/String") (by decide +kernel))
      exact ⟨a, vk_R.of (hts0 _ (List.mem_of_getElem? (i := 854) (by decide +kernel))) q1⟩
    · obtain ⟨a, _, _, _, q1, _⟩ := Cond.exactly_spec (hq (.exactly (.string "Deltacycle" 67) "java/lang/String") (by decide +kernel))
      exact ⟨a, vk_R.of (hts0 _ (List.mem_of_getElem? (i := 764) (by decide +kernel))) q1⟩
    · obtain ⟨a, _, _, _, q1, _⟩ := Cond.exactly_spec (hq (.exactly (.string "Deltacycle" 277) "java/lang/String") (by decide +kernel))
      exact ⟨a, vk_R.of (hts0 _ (List.mem_of_getElem? (i := 1020) (by decide +kernel))) q1⟩
    · obtain ⟨a, _, _, _, q1, _⟩ := Cond.exactly_spec (hq (.exactly (.string "Deltacycle" 271) "java/lang/String") (by decide +kernel))
      exact ⟨a, vk_R.of (hts0 _ (List.mem_of_getElem? (i := 1073) (by decide +kernel))) q1⟩
    · obtain ⟨a, _, _, _, q1, _⟩ := Cond.exactly_spec (hq (.exactly (.string "Deltacycle" 251) "java/lang/String") (by decide +kernel))
      exact ⟨a, vk_R.of (hts0 _ (List.mem_of_getElem? (i := 784) (by decide +kernel))) q1⟩
    · obtain ⟨a, _, _, _, q1, _⟩ := Cond.exactly_spec (hq (.exactly (.string "Deltacycle" 152) "java/lang/String") (by decide +kernel))
      exact ⟨a, vk_R.of (hts0 _ (List.mem_of_getElem? (i := 923) (by decide +kernel))) q1⟩
  · intro q h
    simp only [xCs, List.mem_cons, List.not_mem_nil, or_false] at h
    rcases h with rfl | rfl | rfl | rfl | rfl | rfl | rfl
    · exact va_Nw.of rfl (hts0 _ (List.mem_of_getElem? (i := 1611) (by decide +kernel)))
    · exact va_Nw.of rfl (hts0 _ (List.mem_of_getElem? (i := 1614) (by decide +kernel)))
    · exact va_Nw.of rfl (hts0 _ (List.mem_of_getElem? (i := 1601) (by decide +kernel)))
    · exact va_Nw.of rfl (hts0 _ (List.mem_of_getElem? (i := 757) (by decide +kernel)))
    · exact va_Nw.of rfl (hts0 _ (List.mem_of_getElem? (i := 777) (by decide +kernel)))
    · exact va_Nw.of rfl (hts0 _ (List.mem_of_getElem? (i := 953) (by decide +kernel)))
    · exact va_Nw.of rfl (hts0 _ (List.mem_of_getElem? (i := 1061) (by decide +kernel)))
  · intro y h
    simp only [xDs, List.mem_cons, List.not_mem_nil, or_false] at h
    rcases h with rfl | rfl | rfl
    · exact va_Nw.of rfl (hts0 _ (List.mem_of_getElem? (i := 376) (by decide +kernel)))
    · exact va_Nw.of rfl (hts0 _ (List.mem_of_getElem? (i := 378) (by decide +kernel)))
    · exact va_Nw.of rfl (hts0 _ (List.mem_of_getElem? (i := 380) (by decide +kernel)))
  · intro q h
    simp only [xNc, List.mem_cons, List.not_mem_nil, or_false] at h
    subst h
    exact va_Nc.of (hq (.not (.castable "java/lang/IndexOutOfBoundsException" "java/lang/IllegalArgumentException")) (by decide +kernel))
  · exact va_AO.of (hts0 _ (List.mem_of_getElem? (i := 625) (by decide +kernel)))
  · exact va_Nw.of rfl (hts0 _ (List.mem_of_getElem? (i := 122) (by decide +kernel)))
  · exact va_Nw.of rfl (hts0 _ (List.mem_of_getElem? (i := 102) (by decide +kernel)))
  · exact va_Fw.of (hts0 _ (List.mem_of_getElem? (i := 1151) (by decide +kernel))) (hts0 _ (List.mem_of_getElem? (i := 1150) (by decide +kernel))) (hts0 _ (List.mem_of_getElem? (i := 1156) (by decide +kernel))) (hts0 _ (List.mem_of_getElem? (i := 1154) (by decide +kernel))) (hts0 _ (List.mem_of_getElem? (i := 1152) (by decide +kernel)))
  · exact va_Fw.of (hts0 _ (List.mem_of_getElem? (i := 1161) (by decide +kernel))) (hts0 _ (List.mem_of_getElem? (i := 1160) (by decide +kernel))) (hts0 _ (List.mem_of_getElem? (i := 1165) (by decide +kernel))) (hts0 _ (List.mem_of_getElem? (i := 1163) (by decide +kernel))) (hts0 _ (List.mem_of_getElem? (i := 1152) (by decide +kernel)))
  · exact va_Nw.of rfl (hts0 _ (List.mem_of_getElem? (i := 327) (by decide +kernel)))
