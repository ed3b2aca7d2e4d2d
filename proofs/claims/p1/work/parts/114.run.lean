set_option maxHeartbeats 4000000 in
set_option maxRecDepth 100000 in
theorem k281_rows (l : Launch) (hl9 : l.stackTraces = false) (dC : Nat → ClassId) (dI : Nat → Nat → Nat) (z : XZ) (h0 h1 h2 h3 h4 : Nat) (sz : Nat) : Met l yX9_rows (.code yX9_rows cX9_rows 1 (some .int) :: wsL_law) ({ frames := 4, cells := 1, slots := 4, locals := 80 }) (va_Pc [.ref h0] (PC (dC, dI) [(h0, .inr (8, [.int 0, .ref h1, .ref h2, .ref h3, .ref h4, .int 0])), (h1, .inr (0, [.int 0, .ref z.1, .int 0])), (h2, .inr (0, [.int 0, .ref z.1, .int 0])), (h3, .inr (0, [.int 0, .ref z.1, .int 0])), (h4, .inr (0, [.int 0, .ref z.1, .int 0]))] [] sz z)) (va_Qi (fun (r : Int32) (_ : Unit) => r = 1) (fun (_ : Unit) (t : State) => PQ (dC, dI) [(h0, .inr (8, [.int 0, .ref h1, .ref h2, .ref h3, .ref h4, .int 0])), (h1, .inr (0, [.int 0, .ref z.1, .int 0])), (h2, .inr (0, [.int 0, .ref z.1, .int 0])), (h3, .inr (0, [.int 0, .ref z.1, .int 0])), (h4, .inr (0, [.int 0, .ref z.1, .int 0]))] [] (va_A [(h0, .inr (8, [.int 0, .ref h1, .ref h2, .ref h3, .ref h4, .int 0])), (h1, .inr (0, [.int 0, .ref z.1, .int 0])), (h2, .inr (0, [.int 0, .ref z.1, .int 0])), (h3, .inr (0, [.int 0, .ref z.1, .int 0])), (h4, .inr (0, [.int 0, .ref z.1, .int 0]))] sz) t) (va_A [(h0, .inr (8, [.int 0, .ref h1, .ref h2, .ref h3, .ref h4, .int 0])), (h1, .inr (0, [.int 0, .ref z.1, .int 0])), (h2, .inr (0, [.int 0, .ref z.1, .int 0])), (h3, .inr (0, [.int 0, .ref z.1, .int 0])), (h4, .inr (0, [.int 0, .ref z.1, .int 0]))] sz)) 1 4 (va_A [(h0, .inr (8, [.int 0, .ref h1, .ref h2, .ref h3, .ref h4, .int 0])), (h1, .inr (0, [.int 0, .ref z.1, .int 0])), (h2, .inr (0, [.int 0, .ref z.1, .int 0])), (h3, .inr (0, [.int 0, .ref z.1, .int 0])), (h4, .inr (0, [.int 0, .ref z.1, .int 0]))] sz) := by
  refine Met.ofW (cc := cX9_rows) (maxL := 1) (ret := (some .int)) (by decide) rfl ?_
  intro p e s m args below meth c s₁ B hml hv
  obtain ⟨rfl, hsz, hP, hK, hD0, hX, hT⟩ := hv
  have hx := B.exec
  have hb := B.bytes
  have hr := B.returns
  have hts0 := atoms_spec (ws := .code yX9_rows cX9_rows 1 (some .int) :: wsL_law) B.pre
  have hts := xTail hts0
  have hown : s.vm.findClass RX9 = some m.cls := findClass_of_methodNamed B.named
  have hlocks := B.notSynchronized
  subst hsz
  have hD := hD0.self (sz := s.heap.size)
  generalize hAe : va_A [(h0, .inr (8, [.int 0, .ref h1, .ref h2, .ref h3, .ref h4, .int 0])), (h1, .inr (0, [.int 0, .ref z.1, .int 0])), (h2, .inr (0, [.int 0, .ref z.1, .int 0])), (h3, .inr (0, [.int 0, .ref z.1, .int 0])), (h4, .inr (0, [.int 0, .ref z.1, .int 0]))] s.heap.size = A at hD hX ⊢
  have hA : ∀ q : Nat, s.heap.size ≤ q → A q := fun q h => by rw [← hAe]; exact Or.inr h
  have hS : va_S A s.heap s.heap [] := va_S.rf
  have hl := lv_entry ([.ref h0]) (n := 1) (Nat.le_of_ble_eq_true rfl)
  rw [lg_entry_eq]
  generalize (lg_sl ([.ref h0]) ++ List.replicate (1 - (lg_sl ([.ref h0])).length) Slot.unset).toArray = ls at hl ⊢
  have hl : lv_has ls 1 [(0, .ref h0)] := hl
  refine lv_iconst (v := 1) hx hb dX9_rows_0 (by decide) ?_
  refine lv_aload_n hx hb dX9_rows_1 rfl (lv_at hl 0 rfl) ?_
  have hF1 := va_free (wc := [(h0, .inr (8, [.int 0, .ref h1, .ref h2, .ref h3, .ref h4, .int 0])), (h1, .inr (0, [.int 0, .ref z.1, .int 0])), (h2, .inr (0, [.int 0, .ref z.1, .int 0])), (h3, .inr (0, [.int 0, .ref z.1, .int 0])), (h4, .inr (0, [.int 0, .ref z.1, .int 0]))]) hD hS hA [0, 1, 2, 3, 4] rfl
  refine va_calli (va_runV (As := []) (rest := [.int 1]) ⟨hx, hb, hml, hown, hts⟩ (k53_sources l hl9 dC dI z h0 h1 h2 h3 h4 s.heap.size) (cwV 0 hts (gV q_252 q_253 q_254 q_255 q_251) rfl rfl rfl (by decide +kernel) ⟨Nat.le_of_ble_eq_true rfl, Nat.le_of_ble_eq_true rfl⟩) ⟨pc_blind, va_recv hK hP (ci := 8) (q0 := 0) rfl rfl, fun U hU hW => ⟨rfl, pc_mk hP hD hK hS hX hT [0, 1, 2, 3, 4] [] rfl rfl rfl rfl hF1 hU hW⟩⟩ rfl rfl hl.1 rfl (lv_room (Nat.le_of_ble_eq_true rfl)) dX9_rows_2 ⟨(Nat.le_of_ble_eq_true rfl), (Nat.le_of_ble_eq_true rfl)⟩) hS (fun q9 _ h9 => hF1 q9 h9) hF1 (fun r4 u3 t3 H3 L3 ht3 hvm3 hw3 hB3 hz3 hk3 hS => ?_)
  obtain ⟨hP, hD, hK⟩ := pq_join (wr := []) (tr := []) (wz := [(h0, .inr (8, [.int 0, .ref h1, .ref h2, .ref h3, .ref h4, .int 0])), (h1, .inr (0, [.int 0, .ref z.1, .int 0])), (h2, .inr (0, [.int 0, .ref z.1, .int 0])), (h3, .inr (0, [.int 0, .ref z.1, .int 0])), (h4, .inr (0, [.int 0, .ref z.1, .int 0]))]) (tz := []) hP hD hK [0, 1, 2, 3, 4] [] [] rfl rfl (by decide) (by decide) rfl hk3 hF1 hB3 ht3 hvm3 rfl rfl
  refine W.eq (g2 := F0 m 5 ls [.int 0, .int 1]) (by rw [hw3]) ?_
  refine W.widen (k := 1) (n := 4) (by decide) (by decide) ?_
  refine lv_ishl hx hb dX9_rows_5 ?_
  refine lv_topi (fun y5 ey5 => ?_)
  obtain rfl : y5 = 1 := ey5.trans (by decide)
  exact W.iret (v := 1) hx hb hr (fun t9 ht9 hW9 => ⟨⟨1, (), rfl, rfl, pq_mk (wc := [(h0, .inr (8, [.int 0, .ref h1, .ref h2, .ref h3, .ref h4, .int 0])), (h1, .inr (0, [.int 0, .ref z.1, .int 0])), (h2, .inr (0, [.int 0, .ref z.1, .int 0])), (h3, .inr (0, [.int 0, .ref z.1, .int 0])), (h4, .inr (0, [.int 0, .ref z.1, .int 0]))]) (tc := []) hP hD hK [0, 1, 2, 3, 4] [] rfl rfl rfl rfl ht9 hW9⟩, hS.F ht9⟩) hS.2.2 dX9_rows_6

set_option maxHeartbeats 4000000 in
set_option maxRecDepth 100000 in
theorem k282_in (l : Launch) (hl9 : l.stackTraces = false) (dC : Nat → ClassId) (dI : Nat → Nat → Nat) (z : XZ) (sz : Nat) (p0 : Int32) : Met l yX9_in (.code yX9_in cX9_in 3 (some .boolean) :: wsL_law) ({ frames := 0, cells := 0, slots := 0, locals := 0 }) (va_Pc [.int p0, .int 0, .int 0] (PC (dC, dI) [] [] sz z)) (va_Qi (fun (r : Int32) (_ : Unit) => r = (xBt p0 0 0)) (fun (_ : Unit) (t : State) => PQ (dC, dI) [] [] (va_A [] sz) t) (va_A [] sz)) 0 0 (va_A [] sz) := by
  refine Met.ofW (cc := cX9_in) (maxL := 3) (ret := (some .boolean)) (by decide) rfl ?_
  intro p e s m args below meth c s₁ B hml hv
  obtain ⟨rfl, hsz, hP, hK, hD0, hX, hT⟩ := hv
  have hx := B.exec
  have hb := B.bytes
  have hr := B.returns
  have hts0 := atoms_spec (ws := .code yX9_in cX9_in 3 (some .boolean) :: wsL_law) B.pre
  have hts := xTail hts0
  have hown : s.vm.findClass RX9 = some m.cls := findClass_of_methodNamed B.named
  have hlocks := B.notSynchronized
  subst hsz
  have hD := hD0.self (sz := s.heap.size)
  generalize hAe : va_A [] s.heap.size = A at hD hX ⊢
  have hA : ∀ q : Nat, s.heap.size ≤ q → A q := fun q h => by rw [← hAe]; exact Or.inr h
  have hS : va_S A s.heap s.heap [] := va_S.rf
  have hl := lv_entry ([.int p0, .int 0, .int 0]) (n := 3) (Nat.le_of_ble_eq_true rfl)
  rw [lg_entry_eq]
  generalize (lg_sl ([.int p0, .int 0, .int 0]) ++ List.replicate (3 - (lg_sl ([.int p0, .int 0, .int 0])).length) Slot.unset).toArray = ls at hl ⊢
  have hl : lv_has ls 3 [(0, .int p0), (1, .int 0), (2, .int 0)] := hl
  refine lv_iload_n hx hb dX9_in_0 rfl (lv_at hl 0 rfl) ?_
  refine lv_iload_n hx hb dX9_in_1 rfl (lv_at hl 1 rfl) ?_
  refine lv_icmp_lt (tgt := 14) hx hb dX9_in_2 (by decide) (fun c1 => ?_) (fun c1 => ?_)
  · refine lv_iconst (v := 0) hx hb dX9_in_14 (by decide) ?_
    exact W.zret (v := 0) (ty := .boolean) hx hb hr rfl (fun t9 ht9 hW9 => ⟨⟨0, (), rfl, (by unfold xBt; simp only [fa_lt, fa_le, fa_eq, tI_0, tI_m1, tI_1, tI_9, tI_100, tI_126, tI_61, tI_38, tI_124, tI_94, tI_9999] at c1 ⊢; split <;> first | rfl | omega), pq_mk (wc := []) (tc := []) hP hD hK [] [] rfl rfl rfl rfl ht9 hW9⟩, hS.F ht9⟩) hS.2.2 dX9_in_15
  · refine lv_iload_n hx hb dX9_in_5 rfl (lv_at hl 0 rfl) ?_
    refine lv_iload_n hx hb dX9_in_6 rfl (lv_at hl 2 rfl) ?_
    refine lv_icmp_gt (tgt := 14) hx hb dX9_in_7 (by decide) (fun c2 => ?_) (fun c2 => ?_)
    · refine lv_iconst (v := 0) hx hb dX9_in_14 (by decide) ?_
      exact W.zret (v := 0) (ty := .boolean) hx hb hr rfl (fun t9 ht9 hW9 => ⟨⟨0, (), rfl, (by unfold xBt; simp only [fa_lt, fa_le, fa_eq, tI_0, tI_m1, tI_1, tI_9, tI_100, tI_126, tI_61, tI_38, tI_124, tI_94, tI_9999] at c1 c2 ⊢; split <;> first | rfl | omega), pq_mk (wc := []) (tc := []) hP hD hK [] [] rfl rfl rfl rfl ht9 hW9⟩, hS.F ht9⟩) hS.2.2 dX9_in_15
    · refine lv_iconst (v := 1) hx hb dX9_in_10 (by decide) ?_
      refine lv_goto (tgt := 15) hx hb dX9_in_11 (by decide) ?_
      exact W.zret (v := 1) (ty := .boolean) hx hb hr rfl (fun t9 ht9 hW9 => ⟨⟨1, (), rfl, (by unfold xBt; simp only [fa_lt, fa_le, fa_eq, tI_0, tI_m1, tI_1, tI_9, tI_100, tI_126, tI_61, tI_38, tI_124, tI_94, tI_9999] at c1 c2 ⊢; split <;> first | rfl | omega), pq_mk (wc := []) (tc := []) hP hD hK [] [] rfl rfl rfl rfl ht9 hW9⟩, hS.F ht9⟩) hS.2.2 dX9_in_15

set_option maxHeartbeats 4000000 in
set_option maxRecDepth 100000 in
theorem k283_addTest (l : Launch) (hl9 : l.stackTraces = false) (dC : Nat → ClassId) (dI : Nat → Nat → Nat) (z : XZ) (h0 h1 h2 h3 h4 : Nat) (sz : Nat) (p0 : Int32) (hv0 : xBt p0 0 0 = 0) : Met l yX9_addTest (.code yX9_addTest cX9_addTest 2 (some .int) :: wsL_law) ({ frames := 5, cells := 1, slots := 4, locals := 100 }) (va_Pc [.ref h0, .int p0] (PC (dC, dI) [(h0, .inr (8, [.int 0, .ref h1, .ref h2, .ref h3, .ref h4, .int 0])), (h1, .inr (0, [.int 0, .ref z.1, .int 0])), (h2, .inr (0, [.int 0, .ref z.1, .int 0])), (h3, .inr (0, [.int 0, .ref z.1, .int 0])), (h4, .inr (0, [.int 0, .ref z.1, .int 0]))] [] sz z)) (va_Qi (fun (r : Int32) (_ : Unit) => r = 0) (fun (_ : Unit) (t : State) => PQ (dC, dI) [(h0, .inr (8, [.int 1, .ref h1, .ref h2, .ref h3, .ref h4, .int 0])), (h1, .inr (0, [.int 0, .ref z.1, .int 0])), (h2, .inr (0, [.int 0, .ref z.1, .int 0])), (h3, .inr (0, [.int 0, .ref z.1, .int 0])), (h4, .inr (0, [.int 0, .ref z.1, .int 0]))] [] (va_A [(h0, .inr (8, [.int 0, .ref h1, .ref h2, .ref h3, .ref h4, .int 0])), (h1, .inr (0, [.int 0, .ref z.1, .int 0])), (h2, .inr (0, [.int 0, .ref z.1, .int 0])), (h3, .inr (0, [.int 0, .ref z.1, .int 0])), (h4, .inr (0, [.int 0, .ref z.1, .int 0]))] sz) t) (va_A [(h0, .inr (8, [.int 0, .ref h1, .ref h2, .ref h3, .ref h4, .int 0])), (h1, .inr (0, [.int 0, .ref z.1, .int 0])), (h2, .inr (0, [.int 0, .ref z.1, .int 0])), (h3, .inr (0, [.int 0, .ref z.1, .int 0])), (h4, .inr (0, [.int 0, .ref z.1, .int 0]))] sz)) 1 4 (va_A [(h0, .inr (8, [.int 0, .ref h1, .ref h2, .ref h3, .ref h4, .int 0])), (h1, .inr (0, [.int 0, .ref z.1, .int 0])), (h2, .inr (0, [.int 0, .ref z.1, .int 0])), (h3, .inr (0, [.int 0, .ref z.1, .int 0])), (h4, .inr (0, [.int 0, .ref z.1, .int 0]))] sz) := by
  refine Met.ofW (cc := cX9_addTest) (maxL := 2) (ret := (some .int)) (by decide) rfl ?_
  intro p e s m args below meth c s₁ B hml hv
  obtain ⟨rfl, hsz, hP, hK, hD0, hX, hT⟩ := hv
  have hx := B.exec
  have hb := B.bytes
  have hr := B.returns
  have hts0 := atoms_spec (ws := .code yX9_addTest cX9_addTest 2 (some .int) :: wsL_law) B.pre
  have hts := xTail hts0
  have hown : s.vm.findClass RX9 = some m.cls := findClass_of_methodNamed B.named
  have hlocks := B.notSynchronized
  subst hsz
  have hD := hD0.self (sz := s.heap.size)
  generalize hAe : va_A [(h0, .inr (8, [.int 0, .ref h1, .ref h2, .ref h3, .ref h4, .int 0])), (h1, .inr (0, [.int 0, .ref z.1, .int 0])), (h2, .inr (0, [.int 0, .ref z.1, .int 0])), (h3, .inr (0, [.int 0, .ref z.1, .int 0])), (h4, .inr (0, [.int 0, .ref z.1, .int 0]))] s.heap.size = A at hD hX ⊢
  have hA : ∀ q : Nat, s.heap.size ≤ q → A q := fun q h => by rw [← hAe]; exact Or.inr h
  have hS : va_S A s.heap s.heap [] := va_S.rf
  have hl := lv_entry ([.ref h0, .int p0]) (n := 2) (Nat.le_of_ble_eq_true rfl)
  rw [lg_entry_eq]
  generalize (lg_sl ([.ref h0, .int p0]) ++ List.replicate (2 - (lg_sl ([.ref h0, .int p0])).length) Slot.unset).toArray = ls at hl ⊢
  have hl : lv_has ls 2 [(0, .ref h0), (1, .int p0)] := hl
  refine lv_aload_n hx hb dX9_addTest_0 rfl (lv_at hl 0 rfl) ?_
  refine lv_iconst (v := 0) hx hb dX9_addTest_1 (by decide) ?_
  refine va_put (D := (dC, dI)) (ci := 8) (v := .int 0) (ty := .int) (C := RX9) (T := TX9) (N := 6) hx hb hts in_X9 tyX9 tyX9_ok nmX9 hown hK hP hD hS 0 rfl rfl 0 (by decide) (hts _ q_230) (fun _ h9 => h9) rfl (by decide +kernel) rfl rfl (Nat.le_of_ble_eq_true rfl) dX9_addTest_2 (fun H1 _ hP hD hS => ?_)
  have hP : va_P (dC, dI) xCl [(h0, .inr (8, [.int 0, .ref h1, .ref h2, .ref h3, .ref h4, .int 0])), (h1, .inr (0, [.int 0, .ref z.1, .int 0])), (h2, .inr (0, [.int 0, .ref z.1, .int 0])), (h3, .inr (0, [.int 0, .ref z.1, .int 0])), (h4, .inr (0, [.int 0, .ref z.1, .int 0]))] H1 := hP
  have hD : va_D A [(h0, .inr (8, [.int 0, .ref h1, .ref h2, .ref h3, .ref h4, .int 0])), (h1, .inr (0, [.int 0, .ref z.1, .int 0])), (h2, .inr (0, [.int 0, .ref z.1, .int 0])), (h3, .inr (0, [.int 0, .ref z.1, .int 0])), (h4, .inr (0, [.int 0, .ref z.1, .int 0]))] := hD
  refine lv_aload_n hx hb dX9_addTest_5 rfl (lv_at hl 0 rfl) ?_
  refine lv_iload_n hx hb dX9_addTest_6 rfl (lv_at hl 1 rfl) ?_
  refine lv_iconst (v := 0) hx hb dX9_addTest_7 (by decide) ?_
  refine lv_aload_n hx hb dX9_addTest_8 rfl (lv_at hl 0 rfl) ?_
  have hF2 := va_free (wc := [(h0, .inr (8, [.int 0, .ref h1, .ref h2, .ref h3, .ref h4, .int 0])), (h1, .inr (0, [.int 0, .ref z.1, .int 0])), (h2, .inr (0, [.int 0, .ref z.1, .int 0])), (h3, .inr (0, [.int 0, .ref z.1, .int 0])), (h4, .inr (0, [.int 0, .ref z.1, .int 0]))]) hD hS hA [0, 1, 2, 3, 4] rfl
  refine va_calli (va_runV (As := []) (rest := [.int 0, .int p0, .ref h0]) ⟨hx, hb, hml, hown, hts⟩ (k281_rows l hl9 dC dI z h0 h1 h2 h3 h4 H1.size) (cwV 0 hts (gV q_662 q_663 q_664 q_255 q_661) rfl rfl rfl (by decide +kernel) ⟨Nat.le_of_ble_eq_true rfl, Nat.le_of_ble_eq_true rfl⟩) ⟨pc_blind, va_recv hK hP (ci := 8) (q0 := 0) rfl rfl, fun U hU hW => ⟨rfl, pc_mk hP hD hK hS hX hT [0, 1, 2, 3, 4] [] rfl rfl rfl rfl hF2 hU hW⟩⟩ rfl rfl hl.1 rfl (lv_room (Nat.le_of_ble_eq_true rfl)) dX9_addTest_9 ⟨(Nat.le_of_ble_eq_true rfl), (Nat.le_of_ble_eq_true rfl)⟩) hS (fun q9 _ h9 => hF2 q9 h9) hF2 (fun r5 u4 t4 H4 L4 ht4 hvm4 hw4 hB4 hz4 hk4 hS => ?_)
  obtain ⟨hP, hD, hK⟩ := pq_join (wr := []) (tr := []) (wz := [(h0, .inr (8, [.int 0, .ref h1, .ref h2, .ref h3, .ref h4, .int 0])), (h1, .inr (0, [.int 0, .ref z.1, .int 0])), (h2, .inr (0, [.int 0, .ref z.1, .int 0])), (h3, .inr (0, [.int 0, .ref z.1, .int 0])), (h4, .inr (0, [.int 0, .ref z.1, .int 0]))]) (tz := []) hP hD hK [0, 1, 2, 3, 4] [] [] rfl rfl (by decide) (by decide) rfl hk4 hF2 hB4 ht4 hvm4 rfl rfl
  refine W.eq (g2 := F0 m 12 ls [.int 1, .int 0, .int p0, .ref h0]) (by rw [hw4]) ?_
  refine W.widen (k := 1) (n := 4) (by decide) (by decide) ?_
  refine lv_iconst (v := 1) hx hb dX9_addTest_12 (by decide) ?_
  refine lv_isub hx hb dX9_addTest_13 ?_
  refine lv_topi (fun y6 ey6 => ?_)
  obtain rfl : y6 = 0 := ey6.trans (by decide)
  have hF7 := va_free (wc := []) hD hS hA [] rfl
  refine va_calli (va_runS (As := [.int p0, .int 0, .int 0]) (rest := [.ref h0]) ⟨hx, hb, hml, hown, hts⟩ (k282_in l hl9 dC dI z H4.size p0) (va_cwS 3 hts (gS q_359 q_360 q_255 q_358) rfl rfl rfl (by decide +kernel) ⟨Nat.le_of_ble_eq_true rfl, Nat.le_of_ble_eq_true rfl⟩) ⟨pc_blind, fun U hU hW => ⟨rfl, pc_mk hP hD hK hS hX hT [] [] rfl rfl rfl rfl hF7 hU hW⟩⟩ rfl rfl hl.1 rfl (lv_room (Nat.le_of_ble_eq_true rfl)) dX9_addTest_14 ⟨(Nat.le_of_ble_eq_true rfl), (Nat.le_of_ble_eq_true rfl)⟩) hS (fun q9 _ h9 => hF7 q9 h9) hF7 (fun r10 u9 t9 H9 L9 ht9 hvm9 hw9 hB9 hz9 hk9 hS => ?_)
  obtain ⟨hP, hD, hK⟩ := pq_join (wr := [(h0, .inr (8, [.int 0, .ref h1, .ref h2, .ref h3, .ref h4, .int 0])), (h1, .inr (0, [.int 0, .ref z.1, .int 0])), (h2, .inr (0, [.int 0, .ref z.1, .int 0])), (h3, .inr (0, [.int 0, .ref z.1, .int 0])), (h4, .inr (0, [.int 0, .ref z.1, .int 0]))]) (tr := []) (wz := [(h0, .inr (8, [.int 0, .ref h1, .ref h2, .ref h3, .ref h4, .int 0])), (h1, .inr (0, [.int 0, .ref z.1, .int 0])), (h2, .inr (0, [.int 0, .ref z.1, .int 0])), (h3, .inr (0, [.int 0, .ref z.1, .int 0])), (h4, .inr (0, [.int 0, .ref z.1, .int 0]))]) (tz := []) hP hD hK [] [0, 1, 2, 3, 4] [] rfl rfl (by decide) (by decide) rfl hk9 hF7 hB9 ht9 hvm9 rfl rfl
  refine W.eq (g2 := F0 m 17 ls [.int 0, .ref h0]) (by rw [hw9, hv0]) ?_
  refine lv_if_ne (tgt := 24) hx hb dX9_addTest_17 (by decide) (fun cz => absurd (by decide) cz) (fun _ => ?_)
  refine lv_iconst (v := 1) hx hb dX9_addTest_20 (by decide) ?_
  refine lv_goto (tgt := 25) hx hb dX9_addTest_21 (by decide) ?_
  refine lv_iconst (v := 1) hx hb dX9_addTest_25 (by decide) ?_
  have hF11 := va_free (wc := [(h0, .inr (8, [.int 0, .ref h1, .ref h2, .ref h3, .ref h4, .int 0])), (h1, .inr (0, [.int 0, .ref z.1, .int 0])), (h2, .inr (0, [.int 0, .ref z.1, .int 0])), (h3, .inr (0, [.int 0, .ref z.1, .int 0])), (h4, .inr (0, [.int 0, .ref z.1, .int 0]))]) hD hS hA [0, 1, 2, 3, 4] rfl
  refine va_calli (va_runV (As := [.int 1, .int 1]) (rest := []) ⟨hx, hb, hml, hown, hts⟩ (k93_fails l hl9 dC dI z h0 h1 h2 h3 h4 H9.size) (cwV 2 hts (gV q_257 q_258 q_259 q_255 q_256) rfl rfl rfl (by decide +kernel) ⟨Nat.le_of_ble_eq_true rfl, Nat.le_of_ble_eq_true rfl⟩) ⟨pc_blind, va_recv hK hP (ci := 8) (q0 := 0) rfl rfl, fun U hU hW => ⟨rfl, pc_mk hP hD hK hS hX hT [0, 1, 2, 3, 4] [] rfl rfl rfl rfl hF11 hU hW⟩⟩ rfl rfl hl.1 rfl (lv_room (Nat.le_of_ble_eq_true rfl)) dX9_addTest_26 ⟨(Nat.le_of_ble_eq_true rfl), (Nat.le_of_ble_eq_true rfl)⟩) hS (fun q9 _ h9 => hF11 q9 h9) hF11 (fun r14 u13 t13 H13 L13 ht13 hvm13 hw13 hB13 hz13 hk13 hS => ?_)
  obtain ⟨hP, hD, hK⟩ := pq_join (wr := []) (tr := []) (wz := [(h0, .inr (8, [.int 1, .ref h1, .ref h2, .ref h3, .ref h4, .int 0])), (h1, .inr (0, [.int 0, .ref z.1, .int 0])), (h2, .inr (0, [.int 0, .ref z.1, .int 0])), (h3, .inr (0, [.int 0, .ref z.1, .int 0])), (h4, .inr (0, [.int 0, .ref z.1, .int 0]))]) (tz := []) hP hD hK [0, 1, 2, 3, 4] [] [] rfl rfl (by decide) (by decide) rfl hk13 hF11 hB13 ht13 hvm13 rfl rfl
  refine W.eq (g2 := F0 m 29 ls [.int 1]) (by rw [hw13]) ?_
  refine lv_if_ne (tgt := 57) hx hb dX9_addTest_29 (by decide) (fun _ => ?_) (fun cz => absurd cz (by decide))
  refine lv_iconst (v := 0) hx hb dX9_addTest_57 (by decide) ?_
  exact W.iret (v := 0) hx hb hr (fun t9 ht9 hW9 => ⟨⟨0, (), rfl, rfl, pq_mk (wc := [(h0, .inr (8, [.int 1, .ref h1, .ref h2, .ref h3, .ref h4, .int 0])), (h1, .inr (0, [.int 0, .ref z.1, .int 0])), (h2, .inr (0, [.int 0, .ref z.1, .int 0])), (h3, .inr (0, [.int 0, .ref z.1, .int 0])), (h4, .inr (0, [.int 0, .ref z.1, .int 0]))]) (tc := []) hP hD hK [0, 1, 2, 3, 4] [] rfl rfl rfl rfl ht9 hW9⟩, hS.F ht9⟩) hS.2.2 dX9_addTest_58

set_option maxHeartbeats 4000000 in
set_option maxRecDepth 100000 in
theorem k284_requireRow (l : Launch) (hl9 : l.stackTraces = false) (dC : Nat → ClassId) (dI : Nat → Nat → Nat) (z : XZ) (h0 h1 h2 h3 h4 h5 h6 h7 h8 : Nat) (sz : Nat) (kc0 : ClassId) : Met l yX6_requireRow (.code yX6_requireRow cX6_requireRow 2 none :: wsL_law) ({ frames := 2, cells := 0, slots := 0, locals := 40 }) (va_Pc [.ref h0, .int 0] (PC (dC, dI) [(h0, .inr (6, [.ref h1, .ref h2, .ref h3])), (h1, .inr (2, [.ref h4, .ref h5, .ref h6, .ref h7])), (h2, .inr (5, [.ref h1, .int 0])), (h3, .inr (4, [.ref h1, .ref h8, .int 0])), (h4, .inr (0, [.int 0, .ref z.1, .int 0])), (h5, .inr (0, [.int 0, .ref z.1, .int 0])), (h6, .inr (0, [.int 0, .ref z.1, .int 0])), (h7, .inr (0, [.int 0, .ref z.1, .int 0])), (h8, .inl (kc0, 8, .inl (fun _ => 0)))] [(kc0, .int)] sz z)) (va_Qv (fun (_ : Unit) => True) (fun (_ : Unit) (t : State) => PQ (dC, dI) [(h0, .inr (6, [.ref h1, .ref h2, .ref h3])), (h1, .inr (2, [.ref h4, .ref h5, .ref h6, .ref h7])), (h2, .inr (5, [.ref h1, .int 0])), (h3, .inr (4, [.ref h1, .ref h8, .int 0])), (h4, .inr (0, [.int 0, .ref z.1, .int 0])), (h5, .inr (0, [.int 0, .ref z.1, .int 0])), (h6, .inr (0, [.int 0, .ref z.1, .int 0])), (h7, .inr (0, [.int 0, .ref z.1, .int 0])), (h8, .inl (kc0, 8, .inl (fun _ => 0)))] [(kc0, .int)] (va_A [(h0, .inr (6, [.ref h1, .ref h2, .ref h3])), (h1, .inr (2, [.ref h4, .ref h5, .ref h6, .ref h7])), (h2, .inr (5, [.ref h1, .int 0])), (h3, .inr (4, [.ref h1, .ref h8, .int 0])), (h4, .inr (0, [.int 0, .ref z.1, .int 0])), (h5, .inr (0, [.int 0, .ref z.1, .int 0])), (h6, .inr (0, [.int 0, .ref z.1, .int 0])), (h7, .inr (0, [.int 0, .ref z.1, .int 0])), (h8, .inl (kc0, 8, .inl (fun _ => 0)))] sz) t) (va_A [(h0, .inr (6, [.ref h1, .ref h2, .ref h3])), (h1, .inr (2, [.ref h4, .ref h5, .ref h6, .ref h7])), (h2, .inr (5, [.ref h1, .int 0])), (h3, .inr (4, [.ref h1, .ref h8, .int 0])), (h4, .inr (0, [.int 0, .ref z.1, .int 0])), (h5, .inr (0, [.int 0, .ref z.1, .int 0])), (h6, .inr (0, [.int 0, .ref z.1, .int 0])), (h7, .inr (0, [.int 0, .ref z.1, .int 0])), (h8, .inl (kc0, 8, .inl (fun _ => 0)))] sz)) 0 0 (va_A [(h0, .inr (6, [.ref h1, .ref h2, .ref h3])), (h1, .inr (2, [.ref h4, .ref h5, .ref h6, .ref h7])), (h2, .inr (5, [.ref h1, .int 0])), (h3, .inr (4, [.ref h1, .ref h8, .int 0])), (h4, .inr (0, [.int 0, .ref z.1, .int 0])), (h5, .inr (0, [.int 0, .ref z.1, .int 0])), (h6, .inr (0, [.int 0, .ref z.1, .int 0])), (h7, .inr (0, [.int 0, .ref z.1, .int 0])), (h8, .inl (kc0, 8, .inl (fun _ => 0)))] sz) := by
  refine Met.ofW (cc := cX6_requireRow) (maxL := 2) (ret := none) (by decide) rfl ?_
  intro p e s m args below meth c s₁ B hml hv
  obtain ⟨rfl, hsz, hP, hK, hD0, hX, hT⟩ := hv
  have hx := B.exec
  have hb := B.bytes
  have hr := B.returns
  have hts0 := atoms_spec (ws := .code yX6_requireRow cX6_requireRow 2 none :: wsL_law) B.pre
  have hts := xTail hts0
  have hown : s.vm.findClass RX6 = some m.cls := findClass_of_methodNamed B.named
  have hlocks := B.notSynchronized
  subst hsz
  have hD := hD0.self (sz := s.heap.size)
  generalize hAe : va_A [(h0, .inr (6, [.ref h1, .ref h2, .ref h3])), (h1, .inr (2, [.ref h4, .ref h5, .ref h6, .ref h7])), (h2, .inr (5, [.ref h1, .int 0])), (h3, .inr (4, [.ref h1, .ref h8, .int 0])), (h4, .inr (0, [.int 0, .ref z.1, .int 0])), (h5, .inr (0, [.int 0, .ref z.1, .int 0])), (h6, .inr (0, [.int 0, .ref z.1, .int 0])), (h7, .inr (0, [.int 0, .ref z.1, .int 0])), (h8, .inl (kc0, 8, .inl (fun _ => 0)))] s.heap.size = A at hD hX ⊢
  have hA : ∀ q : Nat, s.heap.size ≤ q → A q := fun q h => by rw [← hAe]; exact Or.inr h
  have hS : va_S A s.heap s.heap [] := va_S.rf
  have hl := lv_entry ([.ref h0, .int 0]) (n := 2) (Nat.le_of_ble_eq_true rfl)
  rw [lg_entry_eq]
  generalize (lg_sl ([.ref h0, .int 0]) ++ List.replicate (2 - (lg_sl ([.ref h0, .int 0])).length) Slot.unset).toArray = ls at hl ⊢
  have hl : lv_has ls 2 [(0, .ref h0), (1, .int 0)] := hl
  refine lv_iload_n hx hb dX6_requireRow_0 rfl (lv_at hl 1 rfl) ?_
  refine lv_if_lt (tgt := 15) hx hb dX6_requireRow_1 (by decide) (fun cz => absurd cz (by decide)) (fun _ => ?_)
  refine lv_iload_n hx hb dX6_requireRow_4 rfl (lv_at hl 1 rfl) ?_
  refine lv_aload_n hx hb dX6_requireRow_5 rfl (lv_at hl 0 rfl) ?_
  refine va_get (D := (dC, dI)) (ci := 6) (v := .ref h3) (C := RX6) (T := TX6) (N := 3) hx hb hts in_X6 hown hK hP 0 rfl rfl 2 (by decide) (hts _ q_51) (fun _ h9 => h9) rfl dX6_requireRow_6 ?_
  have hF1 := va_free (wc := [(h3, .inr (4, [.ref h1, .ref h8, .int 0])), (h1, .inr (2, [.ref h4, .ref h5, .ref h6, .ref h7])), (h8, .inl (kc0, 8, .inl (fun _ => 0))), (h4, .inr (0, [.int 0, .ref z.1, .int 0])), (h5, .inr (0, [.int 0, .ref z.1, .int 0])), (h6, .inr (0, [.int 0, .ref z.1, .int 0])), (h7, .inr (0, [.int 0, .ref z.1, .int 0]))]) hD hS hA [3, 1, 8, 4, 5, 6, 7] rfl
  refine va_calli (va_runV (As := []) (rest := [.int 0]) ⟨hx, hb, hml, hown, hts⟩ (k277_rowCount l hl9 dC dI z h3 h1 h8 h4 h5 h6 h7 s.heap.size kc0) (cwV 0 hts (gV q_646 q_647 q_648 q_43 q_645) rfl rfl rfl (by decide +kernel) ⟨Nat.le_of_ble_eq_true rfl, Nat.le_of_ble_eq_true rfl⟩) ⟨pc_blind, va_recv hK hP (ci := 4) (q0 := 3) rfl rfl, fun U hU hW => ⟨rfl, pc_mk hP hD hK hS hX hT [3, 1, 8, 4, 5, 6, 7] [0] rfl rfl rfl rfl hF1 hU hW⟩⟩ rfl rfl hl.1 rfl (lv_room (Nat.le_of_ble_eq_true rfl)) dX6_requireRow_9 ⟨(Nat.le_of_ble_eq_true rfl), (Nat.le_of_ble_eq_true rfl)⟩) hS (fun q9 _ h9 => hF1 q9 h9) hF1 (fun r4 u3 t3 H3 L3 ht3 hvm3 hw3 hB3 hz3 hk3 hS => ?_)
  obtain ⟨hP, hD, hK⟩ := pq_join (wr := [(h0, .inr (6, [.ref h1, .ref h2, .ref h3])), (h2, .inr (5, [.ref h1, .int 0]))]) (tr := []) (wz := [(h0, .inr (6, [.ref h1, .ref h2, .ref h3])), (h2, .inr (5, [.ref h1, .int 0])), (h3, .inr (4, [.ref h1, .ref h8, .int 0])), (h1, .inr (2, [.ref h4, .ref h5, .ref h6, .ref h7])), (h8, .inl (kc0, 8, .inl (fun _ => 0))), (h4, .inr (0, [.int 0, .ref z.1, .int 0])), (h5, .inr (0, [.int 0, .ref z.1, .int 0])), (h6, .inr (0, [.int 0, .ref z.1, .int 0])), (h7, .inr (0, [.int 0, .ref z.1, .int 0]))]) (tz := [(kc0, .int)]) hP hD hK [3, 1, 8, 4, 5, 6, 7] [0, 2] [] rfl rfl (by decide) (by decide) rfl hk3 hF1 hB3 ht3 hvm3 rfl rfl
  refine W.eq (g2 := F0 m 12 ls [.int 1, .int 0]) (by rw [hw3]) ?_
  refine lv_icmp_lt (tgt := 26) hx hb dX6_requireRow_12 (by decide) (fun _ => ?_) (fun cz => absurd (by decide) cz)
  exact W.vret hx hb hr (fun t9 ht9 hW9 => ⟨⟨(), rfl, trivial, pq_mk (wc := [(h0, .inr (6, [.ref h1, .ref h2, .ref h3])), (h1, .inr (2, [.ref h4, .ref h5, .ref h6, .ref h7])), (h2, .inr (5, [.ref h1, .int 0])), (h3, .inr (4, [.ref h1, .ref h8, .int 0])), (h4, .inr (0, [.int 0, .ref z.1, .int 0])), (h5, .inr (0, [.int 0, .ref z.1, .int 0])), (h6, .inr (0, [.int 0, .ref z.1, .int 0])), (h7, .inr (0, [.int 0, .ref z.1, .int 0])), (h8, .inl (kc0, 8, .inl (fun _ => 0)))]) (tc := [(kc0, .int)]) hP hD hK [0, 3, 1, 2, 5, 6, 7, 8, 4] [0] rfl rfl rfl rfl ht9 hW9⟩, hS.F ht9⟩) hS.2.2 dX6_requireRow_26

set_option maxHeartbeats 4000000 in
set_option maxRecDepth 100000 in
theorem k285_keepTest (l : Launch) (hl9 : l.stackTraces = false) (dC : Nat → ClassId) (dI : Nat → Nat → Nat) (z : XZ) (h0 h1 h2 h3 h4 h5 h6 : Nat) (sz : Nat) (kc0 : ClassId) : Met l yX4_keepTest (.code yX4_keepTest cX4_keepTest 2 none :: wsL_law) ({ frames := 0, cells := 0, slots := 0, locals := 0 }) (va_Pc [.ref h0, .int 0] (PC (dC, dI) [(h0, .inr (4, [.ref h1, .ref h2, .int 0])), (h1, .inr (2, [.ref h3, .ref h4, .ref h5, .ref h6])), (h2, .inl (kc0, 8, .inl (fun _ => 0))), (h3, .inr (0, [.int 0, .ref z.1, .int 0])), (h4, .inr (0, [.int 0, .ref z.1, .int 0])), (h5, .inr (0, [.int 0, .ref z.1, .int 0])), (h6, .inr (0, [.int 0, .ref z.1, .int 0]))] [(kc0, .int)] sz z)) (va_Qv (fun (_ : Unit) => True) (fun (_ : Unit) (t : State) => PQ (dC, dI) [(h0, .inr (4, [.ref h1, .ref h2, .int 1])), (h1, .inr (2, [.ref h3, .ref h4, .ref h5, .ref h6])), (h2, .inl (kc0, 8, .inl (upd (fun _ => 0) 0 0))), (h3, .inr (0, [.int 0, .ref z.1, .int 0])), (h4, .inr (0, [.int 0, .ref z.1, .int 0])), (h5, .inr (0, [.int 0, .ref z.1, .int 0])), (h6, .inr (0, [.int 0, .ref z.1, .int 0]))] [(kc0, .int)] (va_A [(h0, .inr (4, [.ref h1, .ref h2, .int 0])), (h1, .inr (2, [.ref h3, .ref h4, .ref h5, .ref h6])), (h2, .inl (kc0, 8, .inl (fun _ => 0))), (h3, .inr (0, [.int 0, .ref z.1, .int 0])), (h4, .inr (0, [.int 0, .ref z.1, .int 0])), (h5, .inr (0, [.int 0, .ref z.1, .int 0])), (h6, .inr (0, [.int 0, .ref z.1, .int 0]))] sz) t) (va_A [(h0, .inr (4, [.ref h1, .ref h2, .int 0])), (h1, .inr (2, [.ref h3, .ref h4, .ref h5, .ref h6])), (h2, .inl (kc0, 8, .inl (fun _ => 0))), (h3, .inr (0, [.int 0, .ref z.1, .int 0])), (h4, .inr (0, [.int 0, .ref z.1, .int 0])), (h5, .inr (0, [.int 0, .ref z.1, .int 0])), (h6, .inr (0, [.int 0, .ref z.1, .int 0]))] sz)) 0 0 (va_A [(h0, .inr (4, [.ref h1, .ref h2, .int 0])), (h1, .inr (2, [.ref h3, .ref h4, .ref h5, .ref h6])), (h2, .inl (kc0, 8, .inl (fun _ => 0))), (h3, .inr (0, [.int 0, .ref z.1, .int 0])), (h4, .inr (0, [.int 0, .ref z.1, .int 0])), (h5, .inr (0, [.int 0, .ref z.1, .int 0])), (h6, .inr (0, [.int 0, .ref z.1, .int 0]))] sz) := by
  refine Met.ofW (cc := cX4_keepTest) (maxL := 2) (ret := none) (by decide) rfl ?_
  intro p e s m args below meth c s₁ B hml hv
  obtain ⟨rfl, hsz, hP, hK, hD0, hX, hT⟩ := hv
  have hx := B.exec
  have hb := B.bytes
  have hr := B.returns
  have hts0 := atoms_spec (ws := .code yX4_keepTest cX4_keepTest 2 none :: wsL_law) B.pre
  have hts := xTail hts0
  have hown : s.vm.findClass RX4 = some m.cls := findClass_of_methodNamed B.named
  have hlocks := B.notSynchronized
  subst hsz
  have hD := hD0.self (sz := s.heap.size)
  generalize hAe : va_A [(h0, .inr (4, [.ref h1, .ref h2, .int 0])), (h1, .inr (2, [.ref h3, .ref h4, .ref h5, .ref h6])), (h2, .inl (kc0, 8, .inl (fun _ => 0))), (h3, .inr (0, [.int 0, .ref z.1, .int 0])), (h4, .inr (0, [.int 0, .ref z.1, .int 0])), (h5, .inr (0, [.int 0, .ref z.1, .int 0])), (h6, .inr (0, [.int 0, .ref z.1, .int 0]))] s.heap.size = A at hD hX ⊢
  have hA : ∀ q : Nat, s.heap.size ≤ q → A q := fun q h => by rw [← hAe]; exact Or.inr h
  have hS : va_S A s.heap s.heap [] := va_S.rf
  have hl := lv_entry ([.ref h0, .int 0]) (n := 2) (Nat.le_of_ble_eq_true rfl)
  rw [lg_entry_eq]
  generalize (lg_sl ([.ref h0, .int 0]) ++ List.replicate (2 - (lg_sl ([.ref h0, .int 0])).length) Slot.unset).toArray = ls at hl ⊢
  have hl : lv_has ls 2 [(0, .ref h0), (1, .int 0)] := hl
  refine lv_aload_n hx hb dX4_keepTest_0 rfl (lv_at hl 0 rfl) ?_
  refine va_get (D := (dC, dI)) (ci := 4) (v := .int 0) (C := RX4) (T := TX4) (N := 3) hx hb hts in_X4 hown hK hP 0 rfl rfl 2 (by decide) (hts _ q_670) (fun _ h9 => h9) rfl dX4_keepTest_1 ?_
  refine lv_aload_n hx hb dX4_keepTest_4 rfl (lv_at hl 0 rfl) ?_
  refine va_get (D := (dC, dI)) (ci := 4) (v := .ref h2) (C := RX4) (T := TX4) (N := 3) hx hb hts in_X4 hown hK hP 0 rfl rfl 1 (by decide) (hts _ q_46) (fun _ h9 => h9) rfl dX4_keepTest_5 ?_
  refine va_alen hx hb hK hP 2 0 rfl rfl (v := 8) rfl dX4_keepTest_8 ?_
  refine lv_icmp_ge (tgt := 32) hx hb dX4_keepTest_9 (by decide) (fun cz => absurd cz (by decide)) (fun _ => ?_)
  refine lv_aload_n hx hb dX4_keepTest_12 rfl (lv_at hl 0 rfl) ?_
  refine va_get (D := (dC, dI)) (ci := 4) (v := .ref h2) (C := RX4) (T := TX4) (N := 3) hx hb hts in_X4 hown hK hP 0 rfl rfl 1 (by decide) (hts _ q_46) (fun _ h9 => h9) rfl dX4_keepTest_13 ?_
  refine lv_aload_n hx hb dX4_keepTest_16 rfl (lv_at hl 0 rfl) ?_
  refine va_get (D := (dC, dI)) (ci := 4) (v := .int 0) (C := RX4) (T := TX4) (N := 3) hx hb hts in_X4 hown hK hP 0 rfl rfl 2 (by decide) (hts _ q_670) (fun _ h9 => h9) rfl dX4_keepTest_17 ?_
  refine lv_iload_n hx hb dX4_keepTest_20 rfl (lv_at hl 1 rfl) ?_
  refine va_iast hx hb hK hP hD hS 2 0 rfl rfl (i := 0) (by unfold vp_in; decide) dX4_keepTest_21 (fun H1 _ hP hD hS => ?_)
  have hP : va_P (dC, dI) xCl [(h0, .inr (4, [.ref h1, .ref h2, .int 0])), (h1, .inr (2, [.ref h3, .ref h4, .ref h5, .ref h6])), (h2, .inl (kc0, 8, .inl (upd (fun _ => 0) 0 0))), (h3, .inr (0, [.int 0, .ref z.1, .int 0])), (h4, .inr (0, [.int 0, .ref z.1, .int 0])), (h5, .inr (0, [.int 0, .ref z.1, .int 0])), (h6, .inr (0, [.int 0, .ref z.1, .int 0]))] H1 := hP
  have hD : va_D A [(h0, .inr (4, [.ref h1, .ref h2, .int 0])), (h1, .inr (2, [.ref h3, .ref h4, .ref h5, .ref h6])), (h2, .inl (kc0, 8, .inl (upd (fun _ => 0) 0 0))), (h3, .inr (0, [.int 0, .ref z.1, .int 0])), (h4, .inr (0, [.int 0, .ref z.1, .int 0])), (h5, .inr (0, [.int 0, .ref z.1, .int 0])), (h6, .inr (0, [.int 0, .ref z.1, .int 0]))] := hD
  refine lv_aload_n hx hb dX4_keepTest_22 rfl (lv_at hl 0 rfl) ?_
  refine lv_dup hx hb dX4_keepTest_23 rfl ?_
  refine va_get (D := (dC, dI)) (ci := 4) (v := .int 0) (C := RX4) (T := TX4) (N := 3) hx hb hts in_X4 hown hK hP 0 rfl rfl 2 (by decide) (hts _ q_670) (fun _ h9 => h9) rfl dX4_keepTest_24 ?_
  refine lv_iconst (v := 1) hx hb dX4_keepTest_27 (by decide) ?_
  refine lv_iadd hx hb dX4_keepTest_28 ?_
  refine lv_topi (fun y2 ey2 => ?_)
  obtain rfl : y2 = 1 := ey2.trans (by decide)
  refine va_put (D := (dC, dI)) (ci := 4) (v := .int 1) (ty := .int) (C := RX4) (T := TX4) (N := 3) hx hb hts in_X4 tyX4 tyX4_ok nmX4 hown hK hP hD hS 0 rfl rfl 2 (by decide) (hts _ q_670) (fun _ h9 => h9) rfl (by decide +kernel) rfl rfl (Nat.le_of_ble_eq_true rfl) dX4_keepTest_29 (fun H3 _ hP hD hS => ?_)
  have hP : va_P (dC, dI) xCl [(h0, .inr (4, [.ref h1, .ref h2, .int 1])), (h1, .inr (2, [.ref h3, .ref h4, .ref h5, .ref h6])), (h2, .inl (kc0, 8, .inl (upd (fun _ => 0) 0 0))), (h3, .inr (0, [.int 0, .ref z.1, .int 0])), (h4, .inr (0, [.int 0, .ref z.1, .int 0])), (h5, .inr (0, [.int 0, .ref z.1, .int 0])), (h6, .inr (0, [.int 0, .ref z.1, .int 0]))] H3 := hP
  have hD : va_D A [(h0, .inr (4, [.ref h1, .ref h2, .int 1])), (h1, .inr (2, [.ref h3, .ref h4, .ref h5, .ref h6])), (h2, .inl (kc0, 8, .inl (upd (fun _ => 0) 0 0))), (h3, .inr (0, [.int 0, .ref z.1, .int 0])), (h4, .inr (0, [.int 0, .ref z.1, .int 0])), (h5, .inr (0, [.int 0, .ref z.1, .int 0])), (h6, .inr (0, [.int 0, .ref z.1, .int 0]))] := hD
  exact W.vret hx hb hr (fun t9 ht9 hW9 => ⟨⟨(), rfl, trivial, pq_mk (wc := [(h0, .inr (4, [.ref h1, .ref h2, .int 1])), (h1, .inr (2, [.ref h3, .ref h4, .ref h5, .ref h6])), (h2, .inl (kc0, 8, .inl (upd (fun _ => 0) 0 0))), (h3, .inr (0, [.int 0, .ref z.1, .int 0])), (h4, .inr (0, [.int 0, .ref z.1, .int 0])), (h5, .inr (0, [.int 0, .ref z.1, .int 0])), (h6, .inr (0, [.int 0, .ref z.1, .int 0]))]) (tc := [(kc0, .int)]) hP hD hK [0, 1, 2, 3, 4, 5, 6] [0] rfl rfl rfl rfl ht9 hW9⟩, hS.F ht9⟩) hS.2.2 dX4_keepTest_32

set_option maxHeartbeats 4000000 in
set_option maxRecDepth 100000 in
theorem k286_addTest (l : Launch) (hl9 : l.stackTraces = false) (dC : Nat → ClassId) (dI : Nat → Nat → Nat) (z : XZ) (h0 h1 h2 h3 h4 h5 h6 h7 h8 : Nat) (sz : Nat) (kc0 : ClassId) : Met l yX6_addTest (.code yX6_addTest cX6_addTest 2 (some .int) :: wsL_law) ({ frames := 3, cells := 0, slots := 0, locals := 61 }) (va_Pc [.ref h0, .int 0] (PC (dC, dI) [(h0, .inr (6, [.ref h1, .ref h2, .ref h3])), (h1, .inr (2, [.ref h4, .ref h5, .ref h6, .ref h7])), (h2, .inr (5, [.ref h1, .int 0])), (h3, .inr (4, [.ref h1, .ref h8, .int 0])), (h4, .inr (0, [.int 0, .ref z.1, .int 0])), (h5, .inr (0, [.int 0, .ref z.1, .int 0])), (h6, .inr (0, [.int 0, .ref z.1, .int 0])), (h7, .inr (0, [.int 0, .ref z.1, .int 0])), (h8, .inl (kc0, 8, .inl (fun _ => 0)))] [(kc0, .int)] sz z)) (va_Qi (fun (r : Int32) (_ : Unit) => r = 1) (fun (_ : Unit) (t : State) => PQ (dC, dI) [(h0, .inr (6, [.ref h1, .ref h2, .ref h3])), (h1, .inr (2, [.ref h4, .ref h5, .ref h6, .ref h7])), (h2, .inr (5, [.ref h1, .int 0])), (h3, .inr (4, [.ref h1, .ref h8, .int 1])), (h4, .inr (0, [.int 0, .ref z.1, .int 0])), (h5, .inr (0, [.int 0, .ref z.1, .int 0])), (h6, .inr (0, [.int 0, .ref z.1, .int 0])), (h7, .inr (0, [.int 0, .ref z.1, .int 0])), (h8, .inl (kc0, 8, .inl (upd (fun _ => 0) 0 0)))] [(kc0, .int)] (va_A [(h0, .inr (6, [.ref h1, .ref h2, .ref h3])), (h1, .inr (2, [.ref h4, .ref h5, .ref h6, .ref h7])), (h2, .inr (5, [.ref h1, .int 0])), (h3, .inr (4, [.ref h1, .ref h8, .int 0])), (h4, .inr (0, [.int 0, .ref z.1, .int 0])), (h5, .inr (0, [.int 0, .ref z.1, .int 0])), (h6, .inr (0, [.int 0, .ref z.1, .int 0])), (h7, .inr (0, [.int 0, .ref z.1, .int 0])), (h8, .inl (kc0, 8, .inl (fun _ => 0)))] sz) t) (va_A [(h0, .inr (6, [.ref h1, .ref h2, .ref h3])), (h1, .inr (2, [.ref h4, .ref h5, .ref h6, .ref h7])), (h2, .inr (5, [.ref h1, .int 0])), (h3, .inr (4, [.ref h1, .ref h8, .int 0])), (h4, .inr (0, [.int 0, .ref z.1, .int 0])), (h5, .inr (0, [.int 0, .ref z.1, .int 0])), (h6, .inr (0, [.int 0, .ref z.1, .int 0])), (h7, .inr (0, [.int 0, .ref z.1, .int 0])), (h8, .inl (kc0, 8, .inl (fun _ => 0)))] sz)) 0 0 (va_A [(h0, .inr (6, [.ref h1, .ref h2, .ref h3])), (h1, .inr (2, [.ref h4, .ref h5, .ref h6, .ref h7])), (h2, .inr (5, [.ref h1, .int 0])), (h3, .inr (4, [.ref h1, .ref h8, .int 0])), (h4, .inr (0, [.int 0, .ref z.1, .int 0])), (h5, .inr (0, [.int 0, .ref z.1, .int 0])), (h6, .inr (0, [.int 0, .ref z.1, .int 0])), (h7, .inr (0, [.int 0, .ref z.1, .int 0])), (h8, .inl (kc0, 8, .inl (fun _ => 0)))] sz) := by
  refine Met.ofW (cc := cX6_addTest) (maxL := 2) (ret := (some .int)) (by decide) rfl ?_
  intro p e s m args below meth c s₁ B hml hv
  obtain ⟨rfl, hsz, hP, hK, hD0, hX, hT⟩ := hv
  have hx := B.exec
  have hb := B.bytes
  have hr := B.returns
  have hts0 := atoms_spec (ws := .code yX6_addTest cX6_addTest 2 (some .int) :: wsL_law) B.pre
  have hts := xTail hts0
  have hown : s.vm.findClass RX6 = some m.cls := findClass_of_methodNamed B.named
  have hlocks := B.notSynchronized
  subst hsz
  have hD := hD0.self (sz := s.heap.size)
  generalize hAe : va_A [(h0, .inr (6, [.ref h1, .ref h2, .ref h3])), (h1, .inr (2, [.ref h4, .ref h5, .ref h6, .ref h7])), (h2, .inr (5, [.ref h1, .int 0])), (h3, .inr (4, [.ref h1, .ref h8, .int 0])), (h4, .inr (0, [.int 0, .ref z.1, .int 0])), (h5, .inr (0, [.int 0, .ref z.1, .int 0])), (h6, .inr (0, [.int 0, .ref z.1, .int 0])), (h7, .inr (0, [.int 0, .ref z.1, .int 0])), (h8, .inl (kc0, 8, .inl (fun _ => 0)))] s.heap.size = A at hD hX ⊢
  have hA : ∀ q : Nat, s.heap.size ≤ q → A q := fun q h => by rw [← hAe]; exact Or.inr h
  have hS : va_S A s.heap s.heap [] := va_S.rf
  have hl := lv_entry ([.ref h0, .int 0]) (n := 2) (Nat.le_of_ble_eq_true rfl)
  rw [lg_entry_eq]
  generalize (lg_sl ([.ref h0, .int 0]) ++ List.replicate (2 - (lg_sl ([.ref h0, .int 0])).length) Slot.unset).toArray = ls at hl ⊢
  have hl : lv_has ls 2 [(0, .ref h0), (1, .int 0)] := hl
  refine lv_aload_n hx hb dX6_addTest_0 rfl (lv_at hl 0 rfl) ?_
  refine lv_iload_n hx hb dX6_addTest_1 rfl (lv_at hl 1 rfl) ?_
  have hF1 := va_free (wc := [(h0, .inr (6, [.ref h1, .ref h2, .ref h3])), (h1, .inr (2, [.ref h4, .ref h5, .ref h6, .ref h7])), (h2, .inr (5, [.ref h1, .int 0])), (h3, .inr (4, [.ref h1, .ref h8, .int 0])), (h4, .inr (0, [.int 0, .ref z.1, .int 0])), (h5, .inr (0, [.int 0, .ref z.1, .int 0])), (h6, .inr (0, [.int 0, .ref z.1, .int 0])), (h7, .inr (0, [.int 0, .ref z.1, .int 0])), (h8, .inl (kc0, 8, .inl (fun _ => 0)))]) hD hS hA [0, 1, 2, 3, 4, 5, 6, 7, 8] rfl
  refine va_callv (va_runV (As := [.int 0]) (rest := []) ⟨hx, hb, hml, hown, hts⟩ (k284_requireRow l hl9 dC dI z h0 h1 h2 h3 h4 h5 h6 h7 h8 s.heap.size kc0) (cwV 1 hts (gV q_650 q_651 q_652 q_69 q_649) rfl rfl rfl (by decide +kernel) ⟨Nat.le_of_ble_eq_true rfl, Nat.le_of_ble_eq_true rfl⟩) ⟨pc_blind, va_recv hK hP (ci := 6) (q0 := 0) rfl rfl, fun U hU hW => ⟨rfl, pc_mk hP hD hK hS hX hT [0, 1, 2, 3, 4, 5, 6, 7, 8] [0] rfl rfl rfl rfl hF1 hU hW⟩⟩ rfl rfl hl.1 rfl (lv_room (Nat.le_of_ble_eq_true rfl)) dX6_addTest_2 ⟨(Nat.le_of_ble_eq_true rfl), (Nat.le_of_ble_eq_true rfl)⟩) hS (fun q9 _ h9 => hF1 q9 h9) hF1 (fun u3 t3 H3 L3 ht3 hvm3 hw3 hB3 hz3 hk3 hS => ?_)
  obtain ⟨hP, hD, hK⟩ := pq_join (wr := []) (tr := []) (wz := [(h0, .inr (6, [.ref h1, .ref h2, .ref h3])), (h1, .inr (2, [.ref h4, .ref h5, .ref h6, .ref h7])), (h2, .inr (5, [.ref h1, .int 0])), (h3, .inr (4, [.ref h1, .ref h8, .int 0])), (h4, .inr (0, [.int 0, .ref z.1, .int 0])), (h5, .inr (0, [.int 0, .ref z.1, .int 0])), (h6, .inr (0, [.int 0, .ref z.1, .int 0])), (h7, .inr (0, [.int 0, .ref z.1, .int 0])), (h8, .inl (kc0, 8, .inl (fun _ => 0)))]) (tz := [(kc0, .int)]) hP hD hK [0, 1, 2, 3, 4, 5, 6, 7, 8] [] [] rfl rfl (by decide) (by decide) rfl hk3 hF1 hB3 ht3 hvm3 rfl rfl
  refine lv_aload_n hx hb dX6_addTest_5 rfl (lv_at hl 0 rfl) ?_
  refine va_get (D := (dC, dI)) (ci := 6) (v := .ref h3) (C := RX6) (T := TX6) (N := 3) hx hb hts in_X6 hown hK hP 0 rfl rfl 2 (by decide) (hts _ q_51) (fun _ h9 => h9) rfl dX6_addTest_6 ?_
  refine va_get (D := (dC, dI)) (ci := 4) (v := .int 0) (C := RX4) (T := TX4) (N := 3) hx hb hts in_X4 hown hK hP 3 rfl rfl 2 (by decide) (hts _ q_669) (fun _ h9 => h9) rfl dX6_addTest_9 ?_
  refine lv_bipush (v := 8) hx hb dX6_addTest_12 (by decide) ?_
  refine lv_icmp_lt (tgt := 27) hx hb dX6_addTest_14 (by decide) (fun _ => ?_) (fun cz => absurd (by decide) cz)
  refine lv_aload_n hx hb dX6_addTest_27 rfl (lv_at hl 0 rfl) ?_
  refine va_get (D := (dC, dI)) (ci := 6) (v := .ref h3) (C := RX6) (T := TX6) (N := 3) hx hb hts in_X6 hown hK hP 0 rfl rfl 2 (by decide) (hts _ q_51) (fun _ h9 => h9) rfl dX6_addTest_28 ?_
  refine lv_iload_n hx hb dX6_addTest_31 rfl (lv_at hl 1 rfl) ?_
  have hF5 := va_free (wc := [(h3, .inr (4, [.ref h1, .ref h8, .int 0])), (h1, .inr (2, [.ref h4, .ref h5, .ref h6, .ref h7])), (h8, .inl (kc0, 8, .inl (fun _ => 0))), (h4, .inr (0, [.int 0, .ref z.1, .int 0])), (h5, .inr (0, [.int 0, .ref z.1, .int 0])), (h6, .inr (0, [.int 0, .ref z.1, .int 0])), (h7, .inr (0, [.int 0, .ref z.1, .int 0]))]) hD hS hA [3, 1, 8, 4, 5, 6, 7] rfl
  refine va_callv (va_runV (As := [.int 0]) (rest := []) ⟨hx, hb, hml, hown, hts⟩ (k285_keepTest l hl9 dC dI z h3 h1 h8 h4 h5 h6 h7 H3.size kc0) (cwV 1 hts (gV q_672 q_673 q_674 q_43 q_671) rfl rfl rfl (by decide +kernel) ⟨Nat.le_of_ble_eq_true rfl, Nat.le_of_ble_eq_true rfl⟩) ⟨pc_blind, va_recv hK hP (ci := 4) (q0 := 3) rfl rfl, fun U hU hW => ⟨rfl, pc_mk hP hD hK hS hX hT [3, 1, 8, 4, 5, 6, 7] [0] rfl rfl rfl rfl hF5 hU hW⟩⟩ rfl rfl hl.1 rfl (lv_room (Nat.le_of_ble_eq_true rfl)) dX6_addTest_32 ⟨(Nat.le_of_ble_eq_true rfl), (Nat.le_of_ble_eq_true rfl)⟩) hS (fun q9 _ h9 => hF5 q9 h9) hF5 (fun u7 t7 H7 L7 ht7 hvm7 hw7 hB7 hz7 hk7 hS => ?_)
  obtain ⟨hP, hD, hK⟩ := pq_join (wr := [(h0, .inr (6, [.ref h1, .ref h2, .ref h3])), (h2, .inr (5, [.ref h1, .int 0]))]) (tr := []) (wz := [(h0, .inr (6, [.ref h1, .ref h2, .ref h3])), (h2, .inr (5, [.ref h1, .int 0])), (h3, .inr (4, [.ref h1, .ref h8, .int 1])), (h1, .inr (2, [.ref h4, .ref h5, .ref h6, .ref h7])), (h8, .inl (kc0, 8, .inl (upd (fun _ => 0) 0 0))), (h4, .inr (0, [.int 0, .ref z.1, .int 0])), (h5, .inr (0, [.int 0, .ref z.1, .int 0])), (h6, .inr (0, [.int 0, .ref z.1, .int 0])), (h7, .inr (0, [.int 0, .ref z.1, .int 0]))]) (tz := [(kc0, .int)]) hP hD hK [3, 1, 8, 4, 5, 6, 7] [0, 2] [] rfl rfl (by decide) (by decide) rfl hk7 hF5 hB7 ht7 hvm7 rfl rfl
  refine lv_aload_n hx hb dX6_addTest_35 rfl (lv_at hl 0 rfl) ?_
  refine va_get (D := (dC, dI)) (ci := 6) (v := .ref h3) (C := RX6) (T := TX6) (N := 3) hx hb hts in_X6 hown hK hP 0 rfl rfl 2 (by decide) (hts _ q_51) (fun _ h9 => h9) rfl dX6_addTest_36 ?_
  refine va_get (D := (dC, dI)) (ci := 4) (v := .int 1) (C := RX4) (T := TX4) (N := 3) hx hb hts in_X4 hown hK hP 2 rfl rfl 2 (by decide) (hts _ q_669) (fun _ h9 => h9) rfl dX6_addTest_39 ?_
  exact W.iret (v := 1) hx hb hr (fun t9 ht9 hW9 => ⟨⟨1, (), rfl, rfl, pq_mk (wc := [(h0, .inr (6, [.ref h1, .ref h2, .ref h3])), (h1, .inr (2, [.ref h4, .ref h5, .ref h6, .ref h7])), (h2, .inr (5, [.ref h1, .int 0])), (h3, .inr (4, [.ref h1, .ref h8, .int 1])), (h4, .inr (0, [.int 0, .ref z.1, .int 0])), (h5, .inr (0, [.int 0, .ref z.1, .int 0])), (h6, .inr (0, [.int 0, .ref z.1, .int 0])), (h7, .inr (0, [.int 0, .ref z.1, .int 0])), (h8, .inl (kc0, 8, .inl (upd (fun _ => 0) 0 0)))]) (tc := [(kc0, .int)]) hP hD hK [0, 3, 1, 2, 5, 6, 7, 8, 4] [0] rfl rfl rfl rfl ht9 hW9⟩, hS.F ht9⟩) hS.2.2 dX6_addTest_42

set_option maxHeartbeats 4000000 in
set_option maxRecDepth 100000 in
theorem k287_addTest (l : Launch) (hl9 : l.stackTraces = false) (dC : Nat → ClassId) (dI : Nat → Nat → Nat) (z : XZ) (h0 h1 h2 h3 h4 h5 h6 h7 h8 h9 : Nat) (sz : Nat) (kc0 kc1 : ClassId) : Met l yL_addTest (.codeWith yL_addTest cL_addTest 4 (some .int) [(0, 9, 12, 64), (0, 9, 15, 15)] :: wsL_law) ({ frames := 4, cells := 0, slots := 0, locals := 82 }) (va_Pc [.ref h0, .int 0, .ref h1] (PC (dC, dI) [(h0, .inr (6, [.ref h2, .ref h3, .ref h4])), (h1, .inl (kc0, 1, .inr (.inl (fun _ => 0)))), (h2, .inr (2, [.ref h5, .ref h6, .ref h7, .ref h8])), (h3, .inr (5, [.ref h2, .int 0])), (h4, .inr (4, [.ref h2, .ref h9, .int 0])), (h5, .inr (0, [.int 0, .ref z.1, .int 0])), (h6, .inr (0, [.int 0, .ref z.1, .int 0])), (h7, .inr (0, [.int 0, .ref z.1, .int 0])), (h8, .inr (0, [.int 0, .ref z.1, .int 0])), (h9, .inl (kc1, 8, .inl (fun _ => 0)))] [(kc0, .long), (kc1, .int)] sz z)) (va_Qi (fun (r : Int32) (_ : Unit) => r = 0) (fun (_ : Unit) (t : State) => PQ (dC, dI) [(h0, .inr (6, [.ref h2, .ref h3, .ref h4])), (h1, .inl (kc0, 1, .inr (.inl (vp_updL (fun _ => 0) 0 1)))), (h2, .inr (2, [.ref h5, .ref h6, .ref h7, .ref h8])), (h3, .inr (5, [.ref h2, .int 0])), (h4, .inr (4, [.ref h2, .ref h9, .int 1])), (h5, .inr (0, [.int 0, .ref z.1, .int 0])), (h6, .inr (0, [.int 0, .ref z.1, .int 0])), (h7, .inr (0, [.int 0, .ref z.1, .int 0])), (h8, .inr (0, [.int 0, .ref z.1, .int 0])), (h9, .inl (kc1, 8, .inl (upd (fun _ => 0) 0 0)))] [(kc0, .long), (kc1, .int)] (va_A [(h0, .inr (6, [.ref h2, .ref h3, .ref h4])), (h1, .inl (kc0, 1, .inr (.inl (fun _ => 0)))), (h2, .inr (2, [.ref h5, .ref h6, .ref h7, .ref h8])), (h3, .inr (5, [.ref h2, .int 0])), (h4, .inr (4, [.ref h2, .ref h9, .int 0])), (h5, .inr (0, [.int 0, .ref z.1, .int 0])), (h6, .inr (0, [.int 0, .ref z.1, .int 0])), (h7, .inr (0, [.int 0, .ref z.1, .int 0])), (h8, .inr (0, [.int 0, .ref z.1, .int 0])), (h9, .inl (kc1, 8, .inl (fun _ => 0)))] sz) t) (va_A [(h0, .inr (6, [.ref h2, .ref h3, .ref h4])), (h1, .inl (kc0, 1, .inr (.inl (fun _ => 0)))), (h2, .inr (2, [.ref h5, .ref h6, .ref h7, .ref h8])), (h3, .inr (5, [.ref h2, .int 0])), (h4, .inr (4, [.ref h2, .ref h9, .int 0])), (h5, .inr (0, [.int 0, .ref z.1, .int 0])), (h6, .inr (0, [.int 0, .ref z.1, .int 0])), (h7, .inr (0, [.int 0, .ref z.1, .int 0])), (h8, .inr (0, [.int 0, .ref z.1, .int 0])), (h9, .inl (kc1, 8, .inl (fun _ => 0)))] sz)) 0 0 (va_A [(h0, .inr (6, [.ref h2, .ref h3, .ref h4])), (h1, .inl (kc0, 1, .inr (.inl (fun _ => 0)))), (h2, .inr (2, [.ref h5, .ref h6, .ref h7, .ref h8])), (h3, .inr (5, [.ref h2, .int 0])), (h4, .inr (4, [.ref h2, .ref h9, .int 0])), (h5, .inr (0, [.int 0, .ref z.1, .int 0])), (h6, .inr (0, [.int 0, .ref z.1, .int 0])), (h7, .inr (0, [.int 0, .ref z.1, .int 0])), (h8, .inr (0, [.int 0, .ref z.1, .int 0])), (h9, .inl (kc1, 8, .inl (fun _ => 0)))] sz) := by
  refine va_MetW (cc := cL_addTest) (maxL := 4) (ret := (some .int)) (hh := [(0, 9, 12, 64), (0, 9, 15, 15)]) (by decide) rfl ?_
  intro p e s m args below meth c s₁ B hml hv
  obtain ⟨rfl, hsz, hP, hK, hD0, hX, hT⟩ := hv
  have hx := B.exec
  have hb := B.bytes
  have hr := B.returns
  have hts0 := atoms_spec (ws := .codeWith yL_addTest cL_addTest 4 (some .int) [(0, 9, 12, 64), (0, 9, 15, 15)] :: wsL_law) B.pre
  have htab := vx_table (x := yL_addTest) B (hts0 _ List.mem_cons_self)
  have hts := xTail hts0
  have hown : s.vm.findClass RL = some m.cls := findClass_of_methodNamed B.named
  have hlocks := B.notSynchronized
  subst hsz
  have hD := hD0.self (sz := s.heap.size)
  generalize hAe : va_A [(h0, .inr (6, [.ref h2, .ref h3, .ref h4])), (h1, .inl (kc0, 1, .inr (.inl (fun _ => 0)))), (h2, .inr (2, [.ref h5, .ref h6, .ref h7, .ref h8])), (h3, .inr (5, [.ref h2, .int 0])), (h4, .inr (4, [.ref h2, .ref h9, .int 0])), (h5, .inr (0, [.int 0, .ref z.1, .int 0])), (h6, .inr (0, [.int 0, .ref z.1, .int 0])), (h7, .inr (0, [.int 0, .ref z.1, .int 0])), (h8, .inr (0, [.int 0, .ref z.1, .int 0])), (h9, .inl (kc1, 8, .inl (fun _ => 0)))] s.heap.size = A at hD hX ⊢
  have hA : ∀ q : Nat, s.heap.size ≤ q → A q := fun q h => by rw [← hAe]; exact Or.inr h
  have hS : va_S A s.heap s.heap [] := va_S.rf
  have hl := lv_entry ([.ref h0, .int 0, .ref h1]) (n := 4) (Nat.le_of_ble_eq_true rfl)
  rw [lg_entry_eq]
  generalize (lg_sl ([.ref h0, .int 0, .ref h1]) ++ List.replicate (4 - (lg_sl ([.ref h0, .int 0, .ref h1])).length) Slot.unset).toArray = ls at hl ⊢
  have hl : lv_has ls 4 [(0, .ref h0), (1, .int 0), (2, .ref h1)] := hl
  refine lv_aload_n hx hb dL_addTest_0 rfl (lv_at hl 2 rfl) ?_
  refine lv_iconst (v := 0) hx hb dL_addTest_1 (by decide) ?_
  refine lv_aload_n hx hb dL_addTest_2 rfl (lv_at hl 0 rfl) ?_
  refine lv_iload_n hx hb dL_addTest_3 rfl (lv_at hl 1 rfl) ?_
  have hF1 := va_free (wc := [(h0, .inr (6, [.ref h2, .ref h3, .ref h4])), (h2, .inr (2, [.ref h5, .ref h6, .ref h7, .ref h8])), (h3, .inr (5, [.ref h2, .int 0])), (h4, .inr (4, [.ref h2, .ref h9, .int 0])), (h5, .inr (0, [.int 0, .ref z.1, .int 0])), (h6, .inr (0, [.int 0, .ref z.1, .int 0])), (h7, .inr (0, [.int 0, .ref z.1, .int 0])), (h8, .inr (0, [.int 0, .ref z.1, .int 0])), (h9, .inl (kc1, 8, .inl (fun _ => 0)))]) hD hS hA [0, 2, 3, 4, 5, 6, 7, 8, 9] rfl
  refine va_calli (va_runV (As := [.int 0]) (rest := [.int 0, .ref h1]) ⟨hx, hb, hml, hown, hts⟩ (k286_addTest l hl9 dC dI z h0 h2 h3 h4 h5 h6 h7 h8 h9 s.heap.size kc1) (cwV 1 hts (gV q_654 q_655 q_656 q_69 q_653) rfl rfl rfl (by decide +kernel) ⟨Nat.le_of_ble_eq_true rfl, Nat.le_of_ble_eq_true rfl⟩) ⟨pc_blind, va_recv hK hP (ci := 6) (q0 := 0) rfl rfl, fun U hU hW => ⟨rfl, pc_mk hP hD hK hS hX hT [0, 2, 3, 4, 5, 6, 7, 8, 9] [1] rfl rfl rfl rfl hF1 hU hW⟩⟩ rfl rfl hl.1 rfl (lv_room (Nat.le_of_ble_eq_true rfl)) dL_addTest_4 ⟨(Nat.le_of_ble_eq_true rfl), (Nat.le_of_ble_eq_true rfl)⟩) hS (fun q9 _ h9 => hF1 q9 h9) hF1 (fun r4 u3 t3 H3 L3 ht3 hvm3 hw3 hB3 hz3 hk3 hS => ?_)
  obtain ⟨hP, hD, hK⟩ := pq_join (wr := [(h1, .inl (kc0, 1, .inr (.inl (fun _ => 0))))]) (tr := [(kc0, .long)]) (wz := [(h1, .inl (kc0, 1, .inr (.inl (fun _ => 0)))), (h0, .inr (6, [.ref h2, .ref h3, .ref h4])), (h2, .inr (2, [.ref h5, .ref h6, .ref h7, .ref h8])), (h3, .inr (5, [.ref h2, .int 0])), (h4, .inr (4, [.ref h2, .ref h9, .int 1])), (h5, .inr (0, [.int 0, .ref z.1, .int 0])), (h6, .inr (0, [.int 0, .ref z.1, .int 0])), (h7, .inr (0, [.int 0, .ref z.1, .int 0])), (h8, .inr (0, [.int 0, .ref z.1, .int 0])), (h9, .inl (kc1, 8, .inl (upd (fun _ => 0) 0 0)))]) (tz := [(kc0, .long), (kc1, .int)]) hP hD hK [0, 2, 3, 4, 5, 6, 7, 8, 9] [1] [0] rfl rfl (by decide) (by decide) rfl hk3 hF1 hB3 ht3 hvm3 rfl rfl
  refine W.eq (g2 := F0 m 7 ls [.int 1, .int 0, .ref h1]) (by rw [hw3]) ?_
  refine lv_i2l (v := 1) hx hb dL_addTest_7 (by decide) ?_
  refine va_last hx hb hK hP hD hS 0 0 rfl rfl (i := 0) (by unfold vp_in; decide) dL_addTest_8 (fun H5 _ hP hD hS => ?_)
  have hP : va_P (dC, dI) xCl [(h1, .inl (kc0, 1, .inr (.inl (vp_updL (fun _ => 0) 0 1)))), (h0, .inr (6, [.ref h2, .ref h3, .ref h4])), (h2, .inr (2, [.ref h5, .ref h6, .ref h7, .ref h8])), (h3, .inr (5, [.ref h2, .int 0])), (h4, .inr (4, [.ref h2, .ref h9, .int 1])), (h5, .inr (0, [.int 0, .ref z.1, .int 0])), (h6, .inr (0, [.int 0, .ref z.1, .int 0])), (h7, .inr (0, [.int 0, .ref z.1, .int 0])), (h8, .inr (0, [.int 0, .ref z.1, .int 0])), (h9, .inl (kc1, 8, .inl (upd (fun _ => 0) 0 0)))] H5 := hP
  have hD : va_D A [(h1, .inl (kc0, 1, .inr (.inl (vp_updL (fun _ => 0) 0 1)))), (h0, .inr (6, [.ref h2, .ref h3, .ref h4])), (h2, .inr (2, [.ref h5, .ref h6, .ref h7, .ref h8])), (h3, .inr (5, [.ref h2, .int 0])), (h4, .inr (4, [.ref h2, .ref h9, .int 1])), (h5, .inr (0, [.int 0, .ref z.1, .int 0])), (h6, .inr (0, [.int 0, .ref z.1, .int 0])), (h7, .inr (0, [.int 0, .ref z.1, .int 0])), (h8, .inr (0, [.int 0, .ref z.1, .int 0])), (h9, .inl (kc1, 8, .inl (upd (fun _ => 0) 0 0)))] := hD
  refine lv_goto (tgt := 18) hx hb dL_addTest_9 (by decide) ?_
  refine lv_iconst (v := 0) hx hb dL_addTest_18 (by decide) ?_
  exact W.iret (v := 0) hx hb hr (fun t9 ht9 hW9 => ⟨⟨0, (), rfl, rfl, pq_mk (wc := [(h0, .inr (6, [.ref h2, .ref h3, .ref h4])), (h1, .inl (kc0, 1, .inr (.inl (vp_updL (fun _ => 0) 0 1)))), (h2, .inr (2, [.ref h5, .ref h6, .ref h7, .ref h8])), (h3, .inr (5, [.ref h2, .int 0])), (h4, .inr (4, [.ref h2, .ref h9, .int 1])), (h5, .inr (0, [.int 0, .ref z.1, .int 0])), (h6, .inr (0, [.int 0, .ref z.1, .int 0])), (h7, .inr (0, [.int 0, .ref z.1, .int 0])), (h8, .inr (0, [.int 0, .ref z.1, .int 0])), (h9, .inl (kc1, 8, .inl (upd (fun _ => 0) 0 0)))]) (tc := [(kc0, .long), (kc1, .int)]) hP hD hK [1, 0, 2, 3, 4, 5, 6, 7, 8, 9] [0, 1] rfl rfl rfl rfl ht9 hW9⟩, hS.F ht9⟩) hS.2.2 dL_addTest_19

set_option maxHeartbeats 4000000 in
set_option maxRecDepth 100000 in
theorem k288_in (l : Launch) (hl9 : l.stackTraces = false) (dC : Nat → ClassId) (dI : Nat → Nat → Nat) (z : XZ) (sz : Nat) : Met l yX9_in (.code yX9_in cX9_in 3 (some .boolean) :: wsL_law) ({ frames := 0, cells := 0, slots := 0, locals := 0 }) (va_Pc [.int 0, .int 0, .int 0] (PC (dC, dI) [] [] sz z)) (va_Qi (fun (r : Int32) (_ : Unit) => r = 1) (fun (_ : Unit) (t : State) => PQ (dC, dI) [] [] (va_A [] sz) t) (va_A [] sz)) 0 0 (va_A [] sz) := by
  refine Met.ofW (cc := cX9_in) (maxL := 3) (ret := (some .boolean)) (by decide) rfl ?_
  intro p e s m args below meth c s₁ B hml hv
  obtain ⟨rfl, hsz, hP, hK, hD0, hX, hT⟩ := hv
  have hx := B.exec
  have hb := B.bytes
  have hr := B.returns
  have hts0 := atoms_spec (ws := .code yX9_in cX9_in 3 (some .boolean) :: wsL_law) B.pre
  have hts := xTail hts0
  have hown : s.vm.findClass RX9 = some m.cls := findClass_of_methodNamed B.named
  have hlocks := B.notSynchronized
  subst hsz
  have hD := hD0.self (sz := s.heap.size)
  generalize hAe : va_A [] s.heap.size = A at hD hX ⊢
  have hA : ∀ q : Nat, s.heap.size ≤ q → A q := fun q h => by rw [← hAe]; exact Or.inr h
  have hS : va_S A s.heap s.heap [] := va_S.rf
  have hl := lv_entry ([.int 0, .int 0, .int 0]) (n := 3) (Nat.le_of_ble_eq_true rfl)
  rw [lg_entry_eq]
  generalize (lg_sl ([.int 0, .int 0, .int 0]) ++ List.replicate (3 - (lg_sl ([.int 0, .int 0, .int 0])).length) Slot.unset).toArray = ls at hl ⊢
  have hl : lv_has ls 3 [(0, .int 0), (1, .int 0), (2, .int 0)] := hl
  refine lv_iload_n hx hb dX9_in_0 rfl (lv_at hl 0 rfl) ?_
  refine lv_iload_n hx hb dX9_in_1 rfl (lv_at hl 1 rfl) ?_
  refine lv_icmp_lt (tgt := 14) hx hb dX9_in_2 (by decide) (fun cz => absurd cz (by decide)) (fun _ => ?_)
  refine lv_iload_n hx hb dX9_in_5 rfl (lv_at hl 0 rfl) ?_
  refine lv_iload_n hx hb dX9_in_6 rfl (lv_at hl 2 rfl) ?_
  refine lv_icmp_gt (tgt := 14) hx hb dX9_in_7 (by decide) (fun cz => absurd cz (by decide)) (fun _ => ?_)
  refine lv_iconst (v := 1) hx hb dX9_in_10 (by decide) ?_
  refine lv_goto (tgt := 15) hx hb dX9_in_11 (by decide) ?_
  exact W.zret (v := 1) (ty := .boolean) hx hb hr rfl (fun t9 ht9 hW9 => ⟨⟨1, (), rfl, rfl, pq_mk (wc := []) (tc := []) hP hD hK [] [] rfl rfl rfl rfl ht9 hW9⟩, hS.F ht9⟩) hS.2.2 dX9_in_15

set_option maxHeartbeats 4000000 in
set_option maxRecDepth 100000 in
theorem k289_add (l : Launch) (hl9 : l.stackTraces = false) (dC : Nat → ClassId) (dI : Nat → Nat → Nat) (z : XZ) (h0 : Nat) (sz : Nat) : Met l yJx4a65c_add_72be8 (.code yJx4a65c_add_72be8 cJx4a65c_add_72be8 4 none :: wsL_law) ({ frames := 3, cells := 1, slots := 10, locals := 65 }) (va_Pc [.ref h0, .ref (z.2.2.1 128), .ref z.1, .int 0] (PC (dC, dI) [(h0, .inr (0, [.int 1, .ref z.1, .int 0]))] [] sz z)) (va_Qv (fun (_ : Unit) => True) (fun (_ : Unit) (t : State) => ∃ (n0 : Nat), ∃ (m0 : ClassId), PQ (dC, dI) [(h0, .inr (0, [.int 1, .ref n0, .int 1])), (n0, .inl (m0, 10, .inr (.inr (.inr (.inr (va_up (fun _ => none) 0 (some (z.2.2.1 128))))))))] [(m0, .object "java/lang/Object")] (va_A [(h0, .inr (0, [.int 1, .ref z.1, .int 0]))] sz) t) (va_A [(h0, .inr (0, [.int 1, .ref z.1, .int 0]))] sz)) 1 10 (va_A [(h0, .inr (0, [.int 1, .ref z.1, .int 0]))] sz) := by
  refine Met.ofW (cc := cJx4a65c_add_72be8) (maxL := 4) (ret := none) (by decide) rfl ?_
  intro p e s m args below meth c s₁ B hml hv
  obtain ⟨rfl, hsz, hP, hK, hD0, hX, hT⟩ := hv
  have hx := B.exec
  have hb := B.bytes
  have hr := B.returns
  have hts0 := atoms_spec (ws := .code yJx4a65c_add_72be8 cJx4a65c_add_72be8 4 none :: wsL_law) B.pre
  have hts := xTail hts0
  have hown : s.vm.findClass RJx4a65c = some m.cls := findClass_of_methodNamed B.named
  have hlocks := B.notSynchronized
  subst hsz
  have hD := hD0.self (sz := s.heap.size)
  generalize hAe : va_A [(h0, .inr (0, [.int 1, .ref z.1, .int 0]))] s.heap.size = A at hD hX ⊢
  have hA : ∀ q : Nat, s.heap.size ≤ q → A q := fun q h => by rw [← hAe]; exact Or.inr h
  have hS : va_S A s.heap s.heap [] := va_S.rf
  have hl := lv_entry ([.ref h0, .ref (z.2.2.1 128), .ref z.1, .int 0]) (n := 4) (Nat.le_of_ble_eq_true rfl)
  rw [lg_entry_eq]
  generalize (lg_sl ([.ref h0, .ref (z.2.2.1 128), .ref z.1, .int 0]) ++ List.replicate (4 - (lg_sl ([.ref h0, .ref (z.2.2.1 128), .ref z.1, .int 0])).length) Slot.unset).toArray = ls at hl ⊢
  have hl : lv_has ls 4 [(0, .ref h0), (1, .ref (z.2.2.1 128)), (2, .ref z.1), (3, .int 0)] := hl
  refine lv_iload_n hx hb dJx4a65c_add_72be8_0 rfl (lv_at hl 3 rfl) ?_
  refine lv_aload_n hx hb dJx4a65c_add_72be8_1 rfl (lv_at hl 2 rfl) ?_
  refine va_tlen hx hb hX.1.2 hS (v := 0) rfl dJx4a65c_add_72be8_2 ?_
  refine lv_icmp_ne (tgt := 11) hx hb dJx4a65c_add_72be8_3 (by decide) (fun cz => absurd (by decide) cz) (fun _ => ?_)
  refine lv_aload_n hx hb dJx4a65c_add_72be8_6 rfl (lv_at hl 0 rfl) ?_
  have hF1 := va_free (wc := [(h0, .inr (0, [.int 1, .ref z.1, .int 0]))]) hD hS hA [0] rfl
  refine va_callr (va_runV (As := []) (rest := []) ⟨hx, hb, hml, hown, hts⟩ (k14_grow l hl9 dC dI z h0 s.heap.size) (cwV 0 hts (gV q_106 q_107 q_108 q_9 q_105) rfl rfl rfl (by decide +kernel) ⟨Nat.le_of_ble_eq_true rfl, Nat.le_of_ble_eq_true rfl⟩) ⟨pc_blind, va_recv hK hP (ci := 0) (q0 := 0) rfl rfl, fun U hU hW => ⟨rfl, pc_mk hP hD hK hS hX hT [0] [] rfl rfl rfl rfl hF1 hU hW⟩⟩ rfl rfl hl.1 rfl (lv_room (Nat.le_of_ble_eq_true rfl)) dJx4a65c_add_72be8_7 ⟨(Nat.le_of_ble_eq_true rfl), (Nat.le_of_ble_eq_true rfl)⟩) hS (fun q9 _ h9 => hF1 q9 h9) hF1 (fun u3 r4 t3 H3 L3 ht3 hvm3 hw3 hB3 hz3 hk3 hS => ?_)
  obtain ⟨a5, k6, hr3, hB3⟩ := hB3
  obtain ⟨hP, hD, hK⟩ := pq_join (wr := []) (tr := []) (wz := [(h0, .inr (0, [.int 1, .ref a5, .int 0])), (a5, .inl (k6, 10, .inr (.inr (.inr (.inr (fun _ => none))))))]) (tz := [(k6, .object "java/lang/Object")]) hP hD hK [0] [] [] rfl rfl (by decide) (by decide) rfl hk3 hF1 hB3 ht3 hvm3 rfl rfl
  refine W.eq (g2 := F0 m 10 ls [.ref a5]) (by rw [hr3]) ?_
  refine W.widen (k := 1) (n := 10) (by decide) (by decide) ?_
  refine lv_astore_n (lv' := [(2, .ref a5), (0, .ref h0), (1, .ref (z.2.2.1 128)), (3, .int 0)]) hx hb dJx4a65c_add_72be8_10 rfl hl (by decide) rfl (fun ls hl => ?_)
  refine lv_aload_n hx hb dJx4a65c_add_72be8_11 rfl (lv_at hl 0 rfl) ?_
  refine lv_iload_n hx hb dJx4a65c_add_72be8_12 rfl (lv_at hl 3 rfl) ?_
  refine lv_aload_n hx hb dJx4a65c_add_72be8_13 rfl (lv_at hl 2 rfl) ?_
  refine vb_astq (E := "java/lang/Object") (C := "java/lang/Integer") hx hb hK hP hD hS 1 0 rfl rfl (va_Orecv (hX.2.2.1.1.1 128 (by decide)) hS) (vb_asgC (hT.2.1.1 ("java/lang/Integer", "java/lang/Object") (by decide))) (i := 0) (by unfold vp_in; decide) dJx4a65c_add_72be8_14 (fun H7 _ hP hD hS => ?_)
  have hP : va_P (dC, dI) xCl [(h0, .inr (0, [.int 1, .ref a5, .int 0])), (a5, .inl (k6, 10, .inr (.inr (.inr (.inr (va_up (fun _ => none) 0 (some (z.2.2.1 128))))))))] H7 := hP
  have hD : va_D A [(h0, .inr (0, [.int 1, .ref a5, .int 0])), (a5, .inl (k6, 10, .inr (.inr (.inr (.inr (va_up (fun _ => none) 0 (some (z.2.2.1 128))))))))] := hD
  refine lv_aload_n hx hb dJx4a65c_add_72be8_15 rfl (lv_at hl 1 rfl) ?_
  refine lv_iload_n hx hb dJx4a65c_add_72be8_16 rfl (lv_at hl 3 rfl) ?_
  refine lv_iconst (v := 1) hx hb dJx4a65c_add_72be8_17 (by decide) ?_
  refine lv_iadd hx hb dJx4a65c_add_72be8_18 ?_
  refine lv_topi (fun y8 ey8 => ?_)
  obtain rfl : y8 = 1 := ey8.trans (by decide)
  refine va_put (D := (dC, dI)) (ci := 0) (v := .int 1) (ty := .int) (C := RJx4a65c) (T := TJx4a65c) (N := 3) hx hb hts in_Jx4a65c tyJx4a65c tyJx4a65c_ok nmJx4a65c hown hK hP hD hS 0 rfl rfl 2 (by decide) (hts _ q_60) (fun _ h9 => h9) rfl (by decide +kernel) rfl rfl (Nat.le_of_ble_eq_true rfl) dJx4a65c_add_72be8_19 (fun H9 _ hP hD hS => ?_)
  have hP : va_P (dC, dI) xCl [(h0, .inr (0, [.int 1, .ref a5, .int 1])), (a5, .inl (k6, 10, .inr (.inr (.inr (.inr (va_up (fun _ => none) 0 (some (z.2.2.1 128))))))))] H9 := hP
  have hD : va_D A [(h0, .inr (0, [.int 1, .ref a5, .int 1])), (a5, .inl (k6, 10, .inr (.inr (.inr (.inr (va_up (fun _ => none) 0 (some (z.2.2.1 128))))))))] := hD
  exact W.vret hx hb hr (fun t9 ht9 hW9 => ⟨⟨(), rfl, trivial, ⟨a5, k6, pq_mk (wc := [(h0, .inr (0, [.int 1, .ref a5, .int 1])), (a5, .inl (k6, 10, .inr (.inr (.inr (.inr (va_up (fun _ => none) 0 (some (z.2.2.1 128))))))))]) (tc := [(k6, .object "java/lang/Object")]) hP hD hK [0, 1] [0] rfl rfl rfl rfl ht9 hW9⟩⟩, hS.F ht9⟩) hS.2.2 dJx4a65c_add_72be8_22

set_option maxHeartbeats 4000000 in
set_option maxRecDepth 100000 in
theorem k290_add (l : Launch) (hl9 : l.stackTraces = false) (dC : Nat → ClassId) (dI : Nat → Nat → Nat) (z : XZ) (h0 : Nat) (sz : Nat) : Met l yJx4a65c_add_9ea2d (.code yJx4a65c_add_9ea2d cJx4a65c_add_9ea2d 2 (some .boolean) :: wsL_law) ({ frames := 4, cells := 1, slots := 10, locals := 88 }) (va_Pc [.ref h0, .ref (z.2.2.1 128)] (PC (dC, dI) [(h0, .inr (0, [.int 0, .ref z.1, .int 0]))] [] sz z)) (va_Qi (fun (r : Int32) (_ : Unit) => r = 1) (fun (_ : Unit) (t : State) => ∃ (n0 : Nat), ∃ (m0 : ClassId), PQ (dC, dI) [(h0, .inr (0, [.int 1, .ref n0, .int 1])), (n0, .inl (m0, 10, .inr (.inr (.inr (.inr (va_up (fun _ => none) 0 (some (z.2.2.1 128))))))))] [(m0, .object "java/lang/Object")] (va_A [(h0, .inr (0, [.int 0, .ref z.1, .int 0]))] sz) t) (va_A [(h0, .inr (0, [.int 0, .ref z.1, .int 0]))] sz)) 1 10 (va_A [(h0, .inr (0, [.int 0, .ref z.1, .int 0]))] sz) := by
  refine Met.ofW (cc := cJx4a65c_add_9ea2d) (maxL := 2) (ret := (some .boolean)) (by decide) rfl ?_
  intro p e s m args below meth c s₁ B hml hv
  obtain ⟨rfl, hsz, hP, hK, hD0, hX, hT⟩ := hv
  have hx := B.exec
  have hb := B.bytes
  have hr := B.returns
  have hts0 := atoms_spec (ws := .code yJx4a65c_add_9ea2d cJx4a65c_add_9ea2d 2 (some .boolean) :: wsL_law) B.pre
  have hts := xTail hts0
  have hown : s.vm.findClass RJx4a65c = some m.cls := findClass_of_methodNamed B.named
  have hlocks := B.notSynchronized
  subst hsz
  have hD := hD0.self (sz := s.heap.size)
  generalize hAe : va_A [(h0, .inr (0, [.int 0, .ref z.1, .int 0]))] s.heap.size = A at hD hX ⊢
  have hA : ∀ q : Nat, s.heap.size ≤ q → A q := fun q h => by rw [← hAe]; exact Or.inr h
  have hS : va_S A s.heap s.heap [] := va_S.rf
  have hl := lv_entry ([.ref h0, .ref (z.2.2.1 128)]) (n := 2) (Nat.le_of_ble_eq_true rfl)
  rw [lg_entry_eq]
  generalize (lg_sl ([.ref h0, .ref (z.2.2.1 128)]) ++ List.replicate (2 - (lg_sl ([.ref h0, .ref (z.2.2.1 128)])).length) Slot.unset).toArray = ls at hl ⊢
  have hl : lv_has ls 2 [(0, .ref h0), (1, .ref (z.2.2.1 128))] := hl
  refine lv_aload_n hx hb dJx4a65c_add_9ea2d_0 rfl (lv_at hl 0 rfl) ?_
  refine lv_dup hx hb dJx4a65c_add_9ea2d_1 rfl ?_
  refine va_get (D := (dC, dI)) (ci := 0) (v := .int 0) (C := RJx4a65c) (T := TJx4a65c) (N := 3) hx hb hts in_Jx4a65c hown hK hP 0 rfl rfl 0 (by decide) (hts _ q_95) (u_same (hts _ q_94)) rfl dJx4a65c_add_9ea2d_2 ?_
  refine lv_iconst (v := 1) hx hb dJx4a65c_add_9ea2d_5 (by decide) ?_
  refine lv_iadd hx hb dJx4a65c_add_9ea2d_6 ?_
  refine lv_topi (fun y1 ey1 => ?_)
  obtain rfl : y1 = 1 := ey1.trans (by decide)
  refine va_put (D := (dC, dI)) (ci := 0) (v := .int 1) (ty := .int) (C := RJx4a65c) (T := TJx4a65c) (N := 3) hx hb hts in_Jx4a65c tyJx4a65c tyJx4a65c_ok nmJx4a65c hown hK hP hD hS 0 rfl rfl 0 (by decide) (hts _ q_95) (u_same (hts _ q_94)) rfl (by decide +kernel) rfl rfl (Nat.le_of_ble_eq_true rfl) dJx4a65c_add_9ea2d_7 (fun H2 _ hP hD hS => ?_)
  have hP : va_P (dC, dI) xCl [(h0, .inr (0, [.int 1, .ref z.1, .int 0]))] H2 := hP
  have hD : va_D A [(h0, .inr (0, [.int 1, .ref z.1, .int 0]))] := hD
  refine lv_aload_n hx hb dJx4a65c_add_9ea2d_10 rfl (lv_at hl 0 rfl) ?_
  refine lv_aload_n hx hb dJx4a65c_add_9ea2d_11 rfl (lv_at hl 1 rfl) ?_
  refine lv_aload_n hx hb dJx4a65c_add_9ea2d_12 rfl (lv_at hl 0 rfl) ?_
  refine va_get (D := (dC, dI)) (ci := 0) (v := .ref z.1) (C := RJx4a65c) (T := TJx4a65c) (N := 3) hx hb hts in_Jx4a65c hown hK hP 0 rfl rfl 1 (by decide) (hts _ q_21) (fun _ h9 => h9) rfl dJx4a65c_add_9ea2d_13 ?_
  refine lv_aload_n hx hb dJx4a65c_add_9ea2d_16 rfl (lv_at hl 0 rfl) ?_
  refine va_get (D := (dC, dI)) (ci := 0) (v := .int 0) (C := RJx4a65c) (T := TJx4a65c) (N := 3) hx hb hts in_Jx4a65c hown hK hP 0 rfl rfl 2 (by decide) (hts _ q_60) (fun _ h9 => h9) rfl dJx4a65c_add_9ea2d_17 ?_
  have hF3 := va_free (wc := [(h0, .inr (0, [.int 1, .ref z.1, .int 0]))]) hD hS hA [0] rfl
  refine va_callv (va_runV (As := [.ref (z.2.2.1 128), .ref z.1, .int 0]) (rest := []) ⟨hx, hb, hml, hown, hts⟩ (k289_add l hl9 dC dI z h0 H2.size) (cwV 3 hts (gV q_110 q_111 q_112 q_9 q_109) rfl rfl rfl (by decide +kernel) ⟨Nat.le_of_ble_eq_true rfl, Nat.le_of_ble_eq_true rfl⟩) ⟨pc_blind, va_recv hK hP (ci := 0) (q0 := 0) rfl rfl, fun U hU hW => ⟨rfl, pc_mk hP hD hK hS hX hT [0] [] rfl rfl rfl rfl hF3 hU hW⟩⟩ rfl rfl hl.1 rfl (lv_room (Nat.le_of_ble_eq_true rfl)) dJx4a65c_add_9ea2d_20 ⟨(Nat.le_of_ble_eq_true rfl), (Nat.le_of_ble_eq_true rfl)⟩) hS (fun q9 _ h9 => hF3 q9 h9) hF3 (fun u5 t5 H5 L5 ht5 hvm5 hw5 hB5 hz5 hk5 hS => ?_)
  obtain ⟨a7, k8, hB5⟩ := hB5
  obtain ⟨hP, hD, hK⟩ := pq_join (wr := []) (tr := []) (wz := [(h0, .inr (0, [.int 1, .ref a7, .int 1])), (a7, .inl (k8, 10, .inr (.inr (.inr (.inr (va_up (fun _ => none) 0 (some (z.2.2.1 128))))))))]) (tz := [(k8, .object "java/lang/Object")]) hP hD hK [0] [] [] rfl rfl (by decide) (by decide) rfl hk5 hF3 hB5 ht5 hvm5 rfl rfl
  refine W.widen (k := 1) (n := 10) (by decide) (by decide) ?_
  refine lv_iconst (v := 1) hx hb dJx4a65c_add_9ea2d_23 (by decide) ?_
  exact W.zret (v := 1) (ty := .boolean) hx hb hr rfl (fun t9 ht9 hW9 => ⟨⟨1, (), rfl, rfl, ⟨a7, k8, pq_mk (wc := [(h0, .inr (0, [.int 1, .ref a7, .int 1])), (a7, .inl (k8, 10, .inr (.inr (.inr (.inr (va_up (fun _ => none) 0 (some (z.2.2.1 128))))))))]) (tc := [(k8, .object "java/lang/Object")]) hP hD hK [0, 1] [0] rfl rfl rfl rfl ht9 hW9⟩⟩, hS.F ht9⟩) hS.2.2 dJx4a65c_add_9ea2d_24

set_option maxHeartbeats 4000000 in
set_option maxRecDepth 100000 in
theorem k291_addTest (l : Launch) (hl9 : l.stackTraces = false) (dC : Nat → ClassId) (dI : Nat → Nat → Nat) (z : XZ) (h0 h1 h2 h3 h4 : Nat) (sz : Nat) : Met l yX9_addTest (.code yX9_addTest cX9_addTest 2 (some .int) :: wsL_law) ({ frames := 5, cells := 2, slots := 14, locals := 109 }) (va_Pc [.ref h0, .int 0] (PC (dC, dI) [(h0, .inr (8, [.int 0, .ref h1, .ref h2, .ref h3, .ref h4, .int 0])), (h1, .inr (0, [.int 0, .ref z.1, .int 0])), (h2, .inr (0, [.int 0, .ref z.1, .int 0])), (h3, .inr (0, [.int 0, .ref z.1, .int 0])), (h4, .inr (0, [.int 0, .ref z.1, .int 0]))] [] sz z)) (va_Qi (fun (r : Int32) (_ : Unit) => r = 1) (fun (_ : Unit) (t : State) => ∃ (n0 : Nat), ∃ (m0 : ClassId), PQ (dC, dI) [(h0, .inr (8, [.int 0, .ref h1, .ref h2, .ref h3, .ref h4, .int 0])), (h1, .inr (0, [.int 0, .ref z.1, .int 0])), (h2, .inr (0, [.int 0, .ref z.1, .int 0])), (h3, .inr (0, [.int 1, .ref n0, .int 1])), (h4, .inr (0, [.int 0, .ref z.1, .int 0])), (n0, .inl (m0, 10, .inr (.inr (.inr (.inr (va_up (fun _ => none) 0 (some (z.2.2.1 128))))))))] [(m0, .object "java/lang/Object")] (va_A [(h0, .inr (8, [.int 0, .ref h1, .ref h2, .ref h3, .ref h4, .int 0])), (h1, .inr (0, [.int 0, .ref z.1, .int 0])), (h2, .inr (0, [.int 0, .ref z.1, .int 0])), (h3, .inr (0, [.int 0, .ref z.1, .int 0])), (h4, .inr (0, [.int 0, .ref z.1, .int 0]))] sz) t) (va_A [(h0, .inr (8, [.int 0, .ref h1, .ref h2, .ref h3, .ref h4, .int 0])), (h1, .inr (0, [.int 0, .ref z.1, .int 0])), (h2, .inr (0, [.int 0, .ref z.1, .int 0])), (h3, .inr (0, [.int 0, .ref z.1, .int 0])), (h4, .inr (0, [.int 0, .ref z.1, .int 0]))] sz)) 2 14 (va_A [(h0, .inr (8, [.int 0, .ref h1, .ref h2, .ref h3, .ref h4, .int 0])), (h1, .inr (0, [.int 0, .ref z.1, .int 0])), (h2, .inr (0, [.int 0, .ref z.1, .int 0])), (h3, .inr (0, [.int 0, .ref z.1, .int 0])), (h4, .inr (0, [.int 0, .ref z.1, .int 0]))] sz) := by
  refine Met.ofW (cc := cX9_addTest) (maxL := 2) (ret := (some .int)) (by decide) rfl ?_
  intro p e s m args below meth c s₁ B hml hv
  obtain ⟨rfl, hsz, hP, hK, hD0, hX, hT⟩ := hv
  have hx := B.exec
  have hb := B.bytes
  have hr := B.returns
  have hts0 := atoms_spec (ws := .code yX9_addTest cX9_addTest 2 (some .int) :: wsL_law) B.pre
  have hts := xTail hts0
  have hown : s.vm.findClass RX9 = some m.cls := findClass_of_methodNamed B.named
  have hlocks := B.notSynchronized
  subst hsz
  have hD := hD0.self (sz := s.heap.size)
  generalize hAe : va_A [(h0, .inr (8, [.int 0, .ref h1, .ref h2, .ref h3, .ref h4, .int 0])), (h1, .inr (0, [.int 0, .ref z.1, .int 0])), (h2, .inr (0, [.int 0, .ref z.1, .int 0])), (h3, .inr (0, [.int 0, .ref z.1, .int 0])), (h4, .inr (0, [.int 0, .ref z.1, .int 0]))] s.heap.size = A at hD hX ⊢
  have hA : ∀ q : Nat, s.heap.size ≤ q → A q := fun q h => by rw [← hAe]; exact Or.inr h
  have hS : va_S A s.heap s.heap [] := va_S.rf
  have hl := lv_entry ([.ref h0, .int 0]) (n := 2) (Nat.le_of_ble_eq_true rfl)
  rw [lg_entry_eq]
  generalize (lg_sl ([.ref h0, .int 0]) ++ List.replicate (2 - (lg_sl ([.ref h0, .int 0])).length) Slot.unset).toArray = ls at hl ⊢
  have hl : lv_has ls 2 [(0, .ref h0), (1, .int 0)] := hl
  refine lv_aload_n hx hb dX9_addTest_0 rfl (lv_at hl 0 rfl) ?_
  refine lv_iconst (v := 0) hx hb dX9_addTest_1 (by decide) ?_
  refine va_put (D := (dC, dI)) (ci := 8) (v := .int 0) (ty := .int) (C := RX9) (T := TX9) (N := 6) hx hb hts in_X9 tyX9 tyX9_ok nmX9 hown hK hP hD hS 0 rfl rfl 0 (by decide) (hts _ q_230) (fun _ h9 => h9) rfl (by decide +kernel) rfl rfl (Nat.le_of_ble_eq_true rfl) dX9_addTest_2 (fun H1 _ hP hD hS => ?_)
  have hP : va_P (dC, dI) xCl [(h0, .inr (8, [.int 0, .ref h1, .ref h2, .ref h3, .ref h4, .int 0])), (h1, .inr (0, [.int 0, .ref z.1, .int 0])), (h2, .inr (0, [.int 0, .ref z.1, .int 0])), (h3, .inr (0, [.int 0, .ref z.1, .int 0])), (h4, .inr (0, [.int 0, .ref z.1, .int 0]))] H1 := hP
  have hD : va_D A [(h0, .inr (8, [.int 0, .ref h1, .ref h2, .ref h3, .ref h4, .int 0])), (h1, .inr (0, [.int 0, .ref z.1, .int 0])), (h2, .inr (0, [.int 0, .ref z.1, .int 0])), (h3, .inr (0, [.int 0, .ref z.1, .int 0])), (h4, .inr (0, [.int 0, .ref z.1, .int 0]))] := hD
  refine lv_aload_n hx hb dX9_addTest_5 rfl (lv_at hl 0 rfl) ?_
  refine lv_iload_n hx hb dX9_addTest_6 rfl (lv_at hl 1 rfl) ?_
  refine lv_iconst (v := 0) hx hb dX9_addTest_7 (by decide) ?_
  refine lv_aload_n hx hb dX9_addTest_8 rfl (lv_at hl 0 rfl) ?_
  have hF2 := va_free (wc := [(h0, .inr (8, [.int 0, .ref h1, .ref h2, .ref h3, .ref h4, .int 0])), (h1, .inr (0, [.int 0, .ref z.1, .int 0])), (h2, .inr (0, [.int 0, .ref z.1, .int 0])), (h3, .inr (0, [.int 0, .ref z.1, .int 0])), (h4, .inr (0, [.int 0, .ref z.1, .int 0]))]) hD hS hA [0, 1, 2, 3, 4] rfl
  refine va_calli (va_runV (As := []) (rest := [.int 0, .int 0, .ref h0]) ⟨hx, hb, hml, hown, hts⟩ (k281_rows l hl9 dC dI z h0 h1 h2 h3 h4 H1.size) (cwV 0 hts (gV q_662 q_663 q_664 q_255 q_661) rfl rfl rfl (by decide +kernel) ⟨Nat.le_of_ble_eq_true rfl, Nat.le_of_ble_eq_true rfl⟩) ⟨pc_blind, va_recv hK hP (ci := 8) (q0 := 0) rfl rfl, fun U hU hW => ⟨rfl, pc_mk hP hD hK hS hX hT [0, 1, 2, 3, 4] [] rfl rfl rfl rfl hF2 hU hW⟩⟩ rfl rfl hl.1 rfl (lv_room (Nat.le_of_ble_eq_true rfl)) dX9_addTest_9 ⟨(Nat.le_of_ble_eq_true rfl), (Nat.le_of_ble_eq_true rfl)⟩) hS (fun q9 _ h9 => hF2 q9 h9) hF2 (fun r5 u4 t4 H4 L4 ht4 hvm4 hw4 hB4 hz4 hk4 hS => ?_)
  obtain ⟨hP, hD, hK⟩ := pq_join (wr := []) (tr := []) (wz := [(h0, .inr (8, [.int 0, .ref h1, .ref h2, .ref h3, .ref h4, .int 0])), (h1, .inr (0, [.int 0, .ref z.1, .int 0])), (h2, .inr (0, [.int 0, .ref z.1, .int 0])), (h3, .inr (0, [.int 0, .ref z.1, .int 0])), (h4, .inr (0, [.int 0, .ref z.1, .int 0]))]) (tz := []) hP hD hK [0, 1, 2, 3, 4] [] [] rfl rfl (by decide) (by decide) rfl hk4 hF2 hB4 ht4 hvm4 rfl rfl
  refine W.eq (g2 := F0 m 12 ls [.int 1, .int 0, .int 0, .ref h0]) (by rw [hw4]) ?_
  refine W.widen (k := 1) (n := 4) (by decide) (by decide) ?_
  refine lv_iconst (v := 1) hx hb dX9_addTest_12 (by decide) ?_
  refine lv_isub hx hb dX9_addTest_13 ?_
  refine lv_topi (fun y6 ey6 => ?_)
  obtain rfl : y6 = 0 := ey6.trans (by decide)
  have hF7 := va_free (wc := []) hD hS hA [] rfl
  refine va_calli (va_runS (As := [.int 0, .int 0, .int 0]) (rest := [.ref h0]) ⟨hx, hb, hml, hown, hts⟩ (k288_in l hl9 dC dI z H4.size) (va_cwS 3 hts (gS q_359 q_360 q_255 q_358) rfl rfl rfl (by decide +kernel) ⟨Nat.le_of_ble_eq_true rfl, Nat.le_of_ble_eq_true rfl⟩) ⟨pc_blind, fun U hU hW => ⟨rfl, pc_mk hP hD hK hS hX hT [] [] rfl rfl rfl rfl hF7 hU hW⟩⟩ rfl rfl hl.1 rfl (lv_room (Nat.le_of_ble_eq_true rfl)) dX9_addTest_14 ⟨(Nat.le_of_ble_eq_true rfl), (Nat.le_of_ble_eq_true rfl)⟩) hS (fun q9 _ h9 => hF7 q9 h9) hF7 (fun r10 u9 t9 H9 L9 ht9 hvm9 hw9 hB9 hz9 hk9 hS => ?_)
  obtain ⟨hP, hD, hK⟩ := pq_join (wr := [(h0, .inr (8, [.int 0, .ref h1, .ref h2, .ref h3, .ref h4, .int 0])), (h1, .inr (0, [.int 0, .ref z.1, .int 0])), (h2, .inr (0, [.int 0, .ref z.1, .int 0])), (h3, .inr (0, [.int 0, .ref z.1, .int 0])), (h4, .inr (0, [.int 0, .ref z.1, .int 0]))]) (tr := []) (wz := [(h0, .inr (8, [.int 0, .ref h1, .ref h2, .ref h3, .ref h4, .int 0])), (h1, .inr (0, [.int 0, .ref z.1, .int 0])), (h2, .inr (0, [.int 0, .ref z.1, .int 0])), (h3, .inr (0, [.int 0, .ref z.1, .int 0])), (h4, .inr (0, [.int 0, .ref z.1, .int 0]))]) (tz := []) hP hD hK [] [0, 1, 2, 3, 4] [] rfl rfl (by decide) (by decide) rfl hk9 hF7 hB9 ht9 hvm9 rfl rfl
  refine W.eq (g2 := F0 m 17 ls [.int 1, .ref h0]) (by rw [hw9]) ?_
  refine lv_if_ne (tgt := 24) hx hb dX9_addTest_17 (by decide) (fun _ => ?_) (fun cz => absurd cz (by decide))
  refine lv_iconst (v := 0) hx hb dX9_addTest_24 (by decide) ?_
  refine lv_iconst (v := 1) hx hb dX9_addTest_25 (by decide) ?_
  have hF11 := va_free (wc := [(h0, .inr (8, [.int 0, .ref h1, .ref h2, .ref h3, .ref h4, .int 0])), (h1, .inr (0, [.int 0, .ref z.1, .int 0])), (h2, .inr (0, [.int 0, .ref z.1, .int 0])), (h3, .inr (0, [.int 0, .ref z.1, .int 0])), (h4, .inr (0, [.int 0, .ref z.1, .int 0]))]) hD hS hA [0, 1, 2, 3, 4] rfl
  refine va_calli (va_runV (As := [.int 0, .int 1]) (rest := []) ⟨hx, hb, hml, hown, hts⟩ (k54_fails l hl9 dC dI z h0 h1 h2 h3 h4 H9.size) (cwV 2 hts (gV q_257 q_258 q_259 q_255 q_256) rfl rfl rfl (by decide +kernel) ⟨Nat.le_of_ble_eq_true rfl, Nat.le_of_ble_eq_true rfl⟩) ⟨pc_blind, va_recv hK hP (ci := 8) (q0 := 0) rfl rfl, fun U hU hW => ⟨rfl, pc_mk hP hD hK hS hX hT [0, 1, 2, 3, 4] [] rfl rfl rfl rfl hF11 hU hW⟩⟩ rfl rfl hl.1 rfl (lv_room (Nat.le_of_ble_eq_true rfl)) dX9_addTest_26 ⟨(Nat.le_of_ble_eq_true rfl), (Nat.le_of_ble_eq_true rfl)⟩) hS (fun q9 _ h9 => hF11 q9 h9) hF11 (fun r14 u13 t13 H13 L13 ht13 hvm13 hw13 hB13 hz13 hk13 hS => ?_)
  obtain ⟨hP, hD, hK⟩ := pq_join (wr := []) (tr := []) (wz := [(h0, .inr (8, [.int 0, .ref h1, .ref h2, .ref h3, .ref h4, .int 0])), (h1, .inr (0, [.int 0, .ref z.1, .int 0])), (h2, .inr (0, [.int 0, .ref z.1, .int 0])), (h3, .inr (0, [.int 0, .ref z.1, .int 0])), (h4, .inr (0, [.int 0, .ref z.1, .int 0]))]) (tz := []) hP hD hK [0, 1, 2, 3, 4] [] [] rfl rfl (by decide) (by decide) rfl hk13 hF11 hB13 ht13 hvm13 rfl rfl
  refine W.eq (g2 := F0 m 29 ls [.int 0]) (by rw [hw13]) ?_
  refine lv_if_ne (tgt := 57) hx hb dX9_addTest_29 (by decide) (fun cz => absurd (by decide) cz) (fun _ => ?_)
  refine lv_aload_n hx hb dX9_addTest_32 rfl (lv_at hl 0 rfl) ?_
  refine lv_aload_n hx hb dX9_addTest_33 rfl (lv_at hl 0 rfl) ?_
  refine va_get (D := (dC, dI)) (ci := 8) (v := .ref h3) (C := RX9) (T := TX9) (N := 6) hx hb hts in_X9 hown hK hP 0 rfl rfl 3 (by decide) (hts _ q_57) (fun _ h9 => h9) rfl dX9_addTest_34 ?_
  have hF15 := va_free (wc := [(h3, .inr (0, [.int 0, .ref z.1, .int 0]))]) hD hS hA [3] rfl
  refine va_calli (va_runV (As := []) (rest := [.ref h0]) ⟨hx, hb, hml, hown, hts⟩ (k9_size l hl9 dC dI z h3 H13.size 0 0) (cwV 0 hts (gV q_260 q_63 q_64 q_9 q_61) rfl rfl rfl (by decide +kernel) ⟨Nat.le_of_ble_eq_true rfl, Nat.le_of_ble_eq_true rfl⟩) ⟨pc_blind, va_recv hK hP (ci := 0) (q0 := 3) rfl rfl, fun U hU hW => ⟨rfl, pc_mk hP hD hK hS hX hT [3] [] rfl rfl rfl rfl hF15 hU hW⟩⟩ rfl rfl hl.1 rfl (lv_room (Nat.le_of_ble_eq_true rfl)) dX9_addTest_37 ⟨(Nat.le_of_ble_eq_true rfl), (Nat.le_of_ble_eq_true rfl)⟩) hS (fun q9 _ h9 => hF15 q9 h9) hF15 (fun r18 u17 t17 H17 L17 ht17 hvm17 hw17 hB17 hz17 hk17 hS => ?_)
  obtain ⟨hP, hD, hK⟩ := pq_join (wr := [(h0, .inr (8, [.int 0, .ref h1, .ref h2, .ref h3, .ref h4, .int 0])), (h1, .inr (0, [.int 0, .ref z.1, .int 0])), (h2, .inr (0, [.int 0, .ref z.1, .int 0])), (h4, .inr (0, [.int 0, .ref z.1, .int 0]))]) (tr := []) (wz := [(h0, .inr (8, [.int 0, .ref h1, .ref h2, .ref h3, .ref h4, .int 0])), (h1, .inr (0, [.int 0, .ref z.1, .int 0])), (h2, .inr (0, [.int 0, .ref z.1, .int 0])), (h4, .inr (0, [.int 0, .ref z.1, .int 0])), (h3, .inr (0, [.int 0, .ref z.1, .int 0]))]) (tz := []) hP hD hK [3] [0, 1, 2, 4] [] rfl rfl (by decide) (by decide) rfl hk17 hF15 hB17 ht17 hvm17 rfl rfl
  refine W.eq (g2 := F0 m 40 ls [.int 0, .ref h0]) (by rw [hw17]) ?_
  refine lv_bipush (v := 8) hx hb dX9_addTest_40 (by decide) ?_
  refine lv_icmp_ne (tgt := 49) hx hb dX9_addTest_42 (by decide) (fun _ => ?_) (fun cz => absurd cz (by decide))
  refine lv_iconst (v := 0) hx hb dX9_addTest_49 (by decide) ?_
  refine lv_iconst (v := 2) hx hb dX9_addTest_50 (by decide) ?_
  have hF19 := va_free (wc := [(h0, .inr (8, [.int 0, .ref h1, .ref h2, .ref h3, .ref h4, .int 0])), (h1, .inr (0, [.int 0, .ref z.1, .int 0])), (h2, .inr (0, [.int 0, .ref z.1, .int 0])), (h3, .inr (0, [.int 0, .ref z.1, .int 0])), (h4, .inr (0, [.int 0, .ref z.1, .int 0]))]) hD hS hA [0, 1, 2, 4, 3] rfl
  refine va_calli (va_runV (As := [.int 0, .int 2]) (rest := []) ⟨hx, hb, hml, hown, hts⟩ (k55_fails l hl9 dC dI z h0 h1 h2 h3 h4 H17.size) (cwV 2 hts (gV q_257 q_258 q_259 q_255 q_256) rfl rfl rfl (by decide +kernel) ⟨Nat.le_of_ble_eq_true rfl, Nat.le_of_ble_eq_true rfl⟩) ⟨pc_blind, va_recv hK hP (ci := 8) (q0 := 0) rfl rfl, fun U hU hW => ⟨rfl, pc_mk hP hD hK hS hX hT [0, 1, 2, 4, 3] [] rfl rfl rfl rfl hF19 hU hW⟩⟩ rfl rfl hl.1 rfl (lv_room (Nat.le_of_ble_eq_true rfl)) dX9_addTest_51 ⟨(Nat.le_of_ble_eq_true rfl), (Nat.le_of_ble_eq_true rfl)⟩) hS (fun q9 _ h9 => hF19 q9 h9) hF19 (fun r22 u21 t21 H21 L21 ht21 hvm21 hw21 hB21 hz21 hk21 hS => ?_)
  obtain ⟨hP, hD, hK⟩ := pq_join (wr := []) (tr := []) (wz := [(h0, .inr (8, [.int 0, .ref h1, .ref h2, .ref h3, .ref h4, .int 0])), (h1, .inr (0, [.int 0, .ref z.1, .int 0])), (h2, .inr (0, [.int 0, .ref z.1, .int 0])), (h3, .inr (0, [.int 0, .ref z.1, .int 0])), (h4, .inr (0, [.int 0, .ref z.1, .int 0]))]) (tz := []) hP hD hK [0, 1, 2, 4, 3] [] [] rfl rfl (by decide) (by decide) rfl hk21 hF19 hB21 ht21 hvm21 rfl rfl
  refine W.eq (g2 := F0 m 54 ls [.int 0]) (by rw [hw21]) ?_
  refine lv_if_eq (tgt := 59) hx hb dX9_addTest_54 (by decide) (fun _ => ?_) (fun cz => absurd (by decide) cz)
  refine lv_aload_n hx hb dX9_addTest_59 rfl (lv_at hl 0 rfl) ?_
  refine va_get (D := (dC, dI)) (ci := 8) (v := .ref h3) (C := RX9) (T := TX9) (N := 6) hx hb hts in_X9 hown hK hP 0 rfl rfl 3 (by decide) (hts _ q_57) (fun _ h9 => h9) rfl dX9_addTest_60 ?_
  refine lv_iload_n hx hb dX9_addTest_63 rfl (lv_at hl 1 rfl) ?_
  have hF23 := va_free (wc := []) hD hS hA [] rfl
  refine va_callr (va_runS (As := [.int 0]) (rest := [.ref h3]) ⟨hx, hb, hml, hown, hts⟩ (k61_valueOf l hl9 dC dI z H21.size) (va_cwS 1 hts (gS q_283 q_284 q_285 q_282) rfl rfl rfl (by decide +kernel) ⟨Nat.le_of_ble_eq_true rfl, Nat.le_of_ble_eq_true rfl⟩) ⟨pc_blind, fun U hU hW => ⟨rfl, pc_mk hP hD hK hS hX hT [] [] rfl rfl rfl rfl hF23 hU hW⟩⟩ rfl rfl hl.1 rfl (lv_room (Nat.le_of_ble_eq_true rfl)) dX9_addTest_64 ⟨(Nat.le_of_ble_eq_true rfl), (Nat.le_of_ble_eq_true rfl)⟩) hS (fun q9 _ h9 => hF23 q9 h9) hF23 (fun u25 r26 t25 H25 L25 ht25 hvm25 hw25 hB25 hz25 hk25 hS => ?_)
  obtain ⟨hr25, hB25⟩ := hB25
  obtain ⟨hP, hD, hK⟩ := pq_join (wr := [(h0, .inr (8, [.int 0, .ref h1, .ref h2, .ref h3, .ref h4, .int 0])), (h1, .inr (0, [.int 0, .ref z.1, .int 0])), (h2, .inr (0, [.int 0, .ref z.1, .int 0])), (h3, .inr (0, [.int 0, .ref z.1, .int 0])), (h4, .inr (0, [.int 0, .ref z.1, .int 0]))]) (tr := []) (wz := [(h0, .inr (8, [.int 0, .ref h1, .ref h2, .ref h3, .ref h4, .int 0])), (h1, .inr (0, [.int 0, .ref z.1, .int 0])), (h2, .inr (0, [.int 0, .ref z.1, .int 0])), (h3, .inr (0, [.int 0, .ref z.1, .int 0])), (h4, .inr (0, [.int 0, .ref z.1, .int 0]))]) (tz := []) hP hD hK [] [0, 1, 2, 3, 4] [] rfl rfl (by decide) (by decide) rfl hk25 hF23 hB25 ht25 hvm25 rfl rfl
  refine W.eq (g2 := F0 m 67 ls [.ref (z.2.2.1 128), .ref h3]) (by rw [hr25]) ?_
  have hF27 := va_free (wc := [(h3, .inr (0, [.int 0, .ref z.1, .int 0]))]) hD hS hA [3] rfl
  refine va_calli (va_runV (As := [.ref (z.2.2.1 128)]) (rest := []) ⟨hx, hb, hml, hown, hts⟩ (k290_add l hl9 dC dI z h3 H25.size) (cwV 1 hts (gV q_272 q_115 q_116 q_9 q_113) rfl rfl rfl (by decide +kernel) ⟨Nat.le_of_ble_eq_true rfl, Nat.le_of_ble_eq_true rfl⟩) ⟨pc_blind, va_recv hK hP (ci := 0) (q0 := 3) rfl rfl, fun U hU hW => ⟨rfl, pc_mk hP hD hK hS hX hT [3] [] rfl rfl rfl rfl hF27 hU hW⟩⟩ rfl rfl hl.1 rfl (lv_room (Nat.le_of_ble_eq_true rfl)) dX9_addTest_67 ⟨(Nat.le_of_ble_eq_true rfl), (Nat.le_of_ble_eq_true rfl)⟩) hS (fun q9 _ h9 => hF27 q9 h9) hF27 (fun r30 u29 t29 H29 L29 ht29 hvm29 hw29 hB29 hz29 hk29 hS => ?_)
  obtain ⟨a31, k32, hB29⟩ := hB29
  obtain ⟨hP, hD, hK⟩ := pq_join (wr := [(h0, .inr (8, [.int 0, .ref h1, .ref h2, .ref h3, .ref h4, .int 0])), (h1, .inr (0, [.int 0, .ref z.1, .int 0])), (h2, .inr (0, [.int 0, .ref z.1, .int 0])), (h4, .inr (0, [.int 0, .ref z.1, .int 0]))]) (tr := []) (wz := [(h0, .inr (8, [.int 0, .ref h1, .ref h2, .ref h3, .ref h4, .int 0])), (h1, .inr (0, [.int 0, .ref z.1, .int 0])), (h2, .inr (0, [.int 0, .ref z.1, .int 0])), (h4, .inr (0, [.int 0, .ref z.1, .int 0])), (h3, .inr (0, [.int 1, .ref a31, .int 1])), (a31, .inl (k32, 10, .inr (.inr (.inr (.inr (va_up (fun _ => none) 0 (some (z.2.2.1 128))))))))]) (tz := [(k32, .object "java/lang/Object")]) hP hD hK [3] [0, 1, 2, 4] [] rfl rfl (by decide) (by decide) rfl hk29 hF27 hB29 ht29 hvm29 rfl rfl
  refine W.eq (g2 := F0 m 70 ls [.int 1]) (by rw [hw29]) ?_
  refine W.widen (k := 2) (n := 14) (by decide) (by decide) ?_
  refine lv_pop hx hb dX9_addTest_70 rfl ?_
  refine lv_aload_n hx hb dX9_addTest_71 rfl (lv_at hl 0 rfl) ?_
  refine va_get (D := (dC, dI)) (ci := 8) (v := .ref h3) (C := RX9) (T := TX9) (N := 6) hx hb hts in_X9 hown hK hP 0 rfl rfl 3 (by decide) (hts _ q_57) (fun _ h9 => h9) rfl dX9_addTest_72 ?_
  have hF33 := va_free (wc := [(h3, .inr (0, [.int 1, .ref a31, .int 1])), (a31, .inl (k32, 10, .inr (.inr (.inr (.inr (va_up (fun _ => none) 0 (some (z.2.2.1 128))))))))]) hD hS hA [4, 5] rfl
  refine va_calli (va_runV (As := []) (rest := []) ⟨hx, hb, hml, hown, hts⟩ (k64_size l hl9 dC dI z h3 a31 H29.size 1 1 k32) (cwV 0 hts (gV q_260 q_63 q_64 q_9 q_61) rfl rfl rfl (by decide +kernel) ⟨Nat.le_of_ble_eq_true rfl, Nat.le_of_ble_eq_true rfl⟩) ⟨pc_blind, va_recv hK hP (ci := 0) (q0 := 4) rfl rfl, fun U hU hW => ⟨rfl, pc_mk hP hD hK hS hX hT [4, 5] [0] rfl rfl rfl rfl hF33 hU hW⟩⟩ rfl rfl hl.1 rfl (lv_room (Nat.le_of_ble_eq_true rfl)) dX9_addTest_75 ⟨(Nat.le_of_ble_eq_true rfl), (Nat.le_of_ble_eq_true rfl)⟩) hS (fun q9 _ h9 => hF33 q9 h9) hF33 (fun r36 u35 t35 H35 L35 ht35 hvm35 hw35 hB35 hz35 hk35 hS => ?_)
  obtain ⟨hP, hD, hK⟩ := pq_join (wr := [(h0, .inr (8, [.int 0, .ref h1, .ref h2, .ref h3, .ref h4, .int 0])), (h1, .inr (0, [.int 0, .ref z.1, .int 0])), (h2, .inr (0, [.int 0, .ref z.1, .int 0])), (h4, .inr (0, [.int 0, .ref z.1, .int 0]))]) (tr := []) (wz := [(h0, .inr (8, [.int 0, .ref h1, .ref h2, .ref h3, .ref h4, .int 0])), (h1, .inr (0, [.int 0, .ref z.1, .int 0])), (h2, .inr (0, [.int 0, .ref z.1, .int 0])), (h4, .inr (0, [.int 0, .ref z.1, .int 0])), (h3, .inr (0, [.int 1, .ref a31, .int 1])), (a31, .inl (k32, 10, .inr (.inr (.inr (.inr (va_up (fun _ => none) 0 (some (z.2.2.1 128))))))))]) (tz := [(k32, .object "java/lang/Object")]) hP hD hK [4, 5] [0, 1, 2, 3] [] rfl rfl (by decide) (by decide) rfl hk35 hF33 hB35 ht35 hvm35 rfl rfl
  refine W.eq (g2 := F0 m 78 ls [.int 1]) (by rw [hw35]) ?_
  exact W.iret (v := 1) hx hb hr (fun t9 ht9 hW9 => ⟨⟨1, (), rfl, rfl, ⟨a31, k32, pq_mk (wc := [(h0, .inr (8, [.int 0, .ref h1, .ref h2, .ref h3, .ref h4, .int 0])), (h1, .inr (0, [.int 0, .ref z.1, .int 0])), (h2, .inr (0, [.int 0, .ref z.1, .int 0])), (h3, .inr (0, [.int 1, .ref a31, .int 1])), (h4, .inr (0, [.int 0, .ref z.1, .int 0])), (a31, .inl (k32, 10, .inr (.inr (.inr (.inr (va_up (fun _ => none) 0 (some (z.2.2.1 128))))))))]) (tc := [(k32, .object "java/lang/Object")]) hP hD hK [0, 1, 2, 4, 3, 5] [0] rfl rfl rfl rfl ht9 hW9⟩⟩, hS.F ht9⟩) hS.2.2 dX9_addTest_78

set_option maxHeartbeats 4000000 in
set_option maxRecDepth 100000 in
theorem k292_thrown (l : Launch) (hl9 : l.stackTraces = false) (dC : Nat → ClassId) (dI : Nat → Nat → Nat) (z : XZ) (h0 h1 h2 h3 h4 h5 : Nat) (sz : Nat) (p0 p1 p2 p3 p4 p5 p6 p7 p8 p9 : Int32) (kc0 : ClassId) : Met l yX9_thrown (.code yX9_thrown cX9_thrown 1 (some .int) :: wsL_law) ({ frames := 0, cells := 0, slots := 0, locals := 0 }) (va_Pc [.ref h0] (PC (dC, dI) [(h0, .inr (8, [.int p0, .ref h1, .ref h2, .ref h3, .ref h4, .int p1])), (h1, .inr (0, [.int p2, .ref z.1, .int p3])), (h2, .inr (0, [.int p4, .ref z.1, .int p5])), (h3, .inr (0, [.int p6, .ref h5, .int p7])), (h4, .inr (0, [.int p8, .ref z.1, .int p9])), (h5, .inl (kc0, 10, .inr (.inr (.inr (.inr (va_up (fun _ => none) 0 (some (z.2.2.1 128))))))))] [(kc0, .object "java/lang/Object")] sz z)) (va_Qi (fun (r : Int32) (_ : Unit) => r = p0) (fun (_ : Unit) (t : State) => PQ (dC, dI) [(h0, .inr (8, [.int p0, .ref h1, .ref h2, .ref h3, .ref h4, .int p1])), (h1, .inr (0, [.int p2, .ref z.1, .int p3])), (h2, .inr (0, [.int p4, .ref z.1, .int p5])), (h3, .inr (0, [.int p6, .ref h5, .int p7])), (h4, .inr (0, [.int p8, .ref z.1, .int p9])), (h5, .inl (kc0, 10, .inr (.inr (.inr (.inr (va_up (fun _ => none) 0 (some (z.2.2.1 128))))))))] [(kc0, .object "java/lang/Object")] (va_A [(h0, .inr (8, [.int p0, .ref h1, .ref h2, .ref h3, .ref h4, .int p1])), (h1, .inr (0, [.int p2, .ref z.1, .int p3])), (h2, .inr (0, [.int p4, .ref z.1, .int p5])), (h3, .inr (0, [.int p6, .ref h5, .int p7])), (h4, .inr (0, [.int p8, .ref z.1, .int p9])), (h5, .inl (kc0, 10, .inr (.inr (.inr (.inr (va_up (fun _ => none) 0 (some (z.2.2.1 128))))))))] sz) t) (va_A [(h0, .inr (8, [.int p0, .ref h1, .ref h2, .ref h3, .ref h4, .int p1])), (h1, .inr (0, [.int p2, .ref z.1, .int p3])), (h2, .inr (0, [.int p4, .ref z.1, .int p5])), (h3, .inr (0, [.int p6, .ref h5, .int p7])), (h4, .inr (0, [.int p8, .ref z.1, .int p9])), (h5, .inl (kc0, 10, .inr (.inr (.inr (.inr (va_up (fun _ => none) 0 (some (z.2.2.1 128))))))))] sz)) 0 0 (va_A [(h0, .inr (8, [.int p0, .ref h1, .ref h2, .ref h3, .ref h4, .int p1])), (h1, .inr (0, [.int p2, .ref z.1, .int p3])), (h2, .inr (0, [.int p4, .ref z.1, .int p5])), (h3, .inr (0, [.int p6, .ref h5, .int p7])), (h4, .inr (0, [.int p8, .ref z.1, .int p9])), (h5, .inl (kc0, 10, .inr (.inr (.inr (.inr (va_up (fun _ => none) 0 (some (z.2.2.1 128))))))))] sz) := by
  refine Met.ofW (cc := cX9_thrown) (maxL := 1) (ret := (some .int)) (by decide) rfl ?_
  intro p e s m args below meth c s₁ B hml hv
  obtain ⟨rfl, hsz, hP, hK, hD0, hX, hT⟩ := hv
  have hx := B.exec
  have hb := B.bytes
  have hr := B.returns
  have hts0 := atoms_spec (ws := .code yX9_thrown cX9_thrown 1 (some .int) :: wsL_law) B.pre
  have hts := xTail hts0
  have hown : s.vm.findClass RX9 = some m.cls := findClass_of_methodNamed B.named
  have hlocks := B.notSynchronized
  subst hsz
  have hD := hD0.self (sz := s.heap.size)
  generalize hAe : va_A [(h0, .inr (8, [.int p0, .ref h1, .ref h2, .ref h3, .ref h4, .int p1])), (h1, .inr (0, [.int p2, .ref z.1, .int p3])), (h2, .inr (0, [.int p4, .ref z.1, .int p5])), (h3, .inr (0, [.int p6, .ref h5, .int p7])), (h4, .inr (0, [.int p8, .ref z.1, .int p9])), (h5, .inl (kc0, 10, .inr (.inr (.inr (.inr (va_up (fun _ => none) 0 (some (z.2.2.1 128))))))))] s.heap.size = A at hD hX ⊢
  have hA : ∀ q : Nat, s.heap.size ≤ q → A q := fun q h => by rw [← hAe]; exact Or.inr h
  have hS : va_S A s.heap s.heap [] := va_S.rf
  have hl := lv_entry ([.ref h0]) (n := 1) (Nat.le_of_ble_eq_true rfl)
  rw [lg_entry_eq]
  generalize (lg_sl ([.ref h0]) ++ List.replicate (1 - (lg_sl ([.ref h0])).length) Slot.unset).toArray = ls at hl ⊢
  have hl : lv_has ls 1 [(0, .ref h0)] := hl
  refine lv_aload_n hx hb dX9_thrown_0 rfl (lv_at hl 0 rfl) ?_
  refine va_get (D := (dC, dI)) (ci := 8) (v := .int p0) (C := RX9) (T := TX9) (N := 6) hx hb hts in_X9 hown hK hP 0 rfl rfl 0 (by decide) (hts _ q_230) (fun _ h9 => h9) rfl dX9_thrown_1 ?_
  exact W.iret (v := p0) hx hb hr (fun t9 ht9 hW9 => ⟨⟨p0, (), rfl, rfl, pq_mk (wc := [(h0, .inr (8, [.int p0, .ref h1, .ref h2, .ref h3, .ref h4, .int p1])), (h1, .inr (0, [.int p2, .ref z.1, .int p3])), (h2, .inr (0, [.int p4, .ref z.1, .int p5])), (h3, .inr (0, [.int p6, .ref h5, .int p7])), (h4, .inr (0, [.int p8, .ref z.1, .int p9])), (h5, .inl (kc0, 10, .inr (.inr (.inr (.inr (va_up (fun _ => none) 0 (some (z.2.2.1 128))))))))]) (tc := [(kc0, .object "java/lang/Object")]) hP hD hK [0, 1, 2, 3, 4, 5] [0] rfl rfl rfl rfl ht9 hW9⟩, hS.F ht9⟩) hS.2.2 dX9_thrown_4

set_option maxHeartbeats 4000000 in
set_option maxRecDepth 100000 in
theorem k293_shown (l : Launch) (hl9 : l.stackTraces = false) (dC : Nat → ClassId) (dI : Nat → Nat → Nat) (z : XZ) (h0 h1 h2 h3 h4 h5 h6 h7 h8 : Nat) (sz : Nat) (kc0 : ClassId) : Met l yX6_shown (.code yX6_shown cX6_shown 4 (some .int) :: wsL_law) ({ frames := 1, cells := 0, slots := 0, locals := 20 }) (va_Pc [.ref h0] (PC (dC, dI) [(h0, .inr (6, [.ref h1, .ref h2, .ref h3])), (h1, .inr (2, [.ref h4, .ref h5, .ref h6, .ref h7])), (h2, .inr (5, [.ref h1, .int 0])), (h3, .inr (4, [.ref h1, .ref h8, .int 0])), (h4, .inr (0, [.int 0, .ref z.1, .int 0])), (h5, .inr (0, [.int 0, .ref z.1, .int 0])), (h6, .inr (0, [.int 0, .ref z.1, .int 0])), (h7, .inr (0, [.int 0, .ref z.1, .int 0])), (h8, .inl (kc0, 8, .inl (fun _ => 0)))] [(kc0, .int)] sz z)) (va_Qi (fun (r : Int32) (_ : Unit) => r = 0) (fun (_ : Unit) (t : State) => PQ (dC, dI) [(h0, .inr (6, [.ref h1, .ref h2, .ref h3])), (h1, .inr (2, [.ref h4, .ref h5, .ref h6, .ref h7])), (h2, .inr (5, [.ref h1, .int 0])), (h3, .inr (4, [.ref h1, .ref h8, .int 0])), (h4, .inr (0, [.int 0, .ref z.1, .int 0])), (h5, .inr (0, [.int 0, .ref z.1, .int 0])), (h6, .inr (0, [.int 0, .ref z.1, .int 0])), (h7, .inr (0, [.int 0, .ref z.1, .int 0])), (h8, .inl (kc0, 8, .inl (fun _ => 0)))] [(kc0, .int)] (va_A [(h0, .inr (6, [.ref h1, .ref h2, .ref h3])), (h1, .inr (2, [.ref h4, .ref h5, .ref h6, .ref h7])), (h2, .inr (5, [.ref h1, .int 0])), (h3, .inr (4, [.ref h1, .ref h8, .int 0])), (h4, .inr (0, [.int 0, .ref z.1, .int 0])), (h5, .inr (0, [.int 0, .ref z.1, .int 0])), (h6, .inr (0, [.int 0, .ref z.1, .int 0])), (h7, .inr (0, [.int 0, .ref z.1, .int 0])), (h8, .inl (kc0, 8, .inl (fun _ => 0)))] sz) t) (va_A [(h0, .inr (6, [.ref h1, .ref h2, .ref h3])), (h1, .inr (2, [.ref h4, .ref h5, .ref h6, .ref h7])), (h2, .inr (5, [.ref h1, .int 0])), (h3, .inr (4, [.ref h1, .ref h8, .int 0])), (h4, .inr (0, [.int 0, .ref z.1, .int 0])), (h5, .inr (0, [.int 0, .ref z.1, .int 0])), (h6, .inr (0, [.int 0, .ref z.1, .int 0])), (h7, .inr (0, [.int 0, .ref z.1, .int 0])), (h8, .inl (kc0, 8, .inl (fun _ => 0)))] sz)) 0 0 (va_A [(h0, .inr (6, [.ref h1, .ref h2, .ref h3])), (h1, .inr (2, [.ref h4, .ref h5, .ref h6, .ref h7])), (h2, .inr (5, [.ref h1, .int 0])), (h3, .inr (4, [.ref h1, .ref h8, .int 0])), (h4, .inr (0, [.int 0, .ref z.1, .int 0])), (h5, .inr (0, [.int 0, .ref z.1, .int 0])), (h6, .inr (0, [.int 0, .ref z.1, .int 0])), (h7, .inr (0, [.int 0, .ref z.1, .int 0])), (h8, .inl (kc0, 8, .inl (fun _ => 0)))] sz) := by
  refine Met.ofW (cc := cX6_shown) (maxL := 4) (ret := (some .int)) (by decide) rfl ?_
  intro p e s m args below meth c s₁ B hml hv
  obtain ⟨rfl, hsz, hP, hK, hD0, hX, hT⟩ := hv
  have hx := B.exec
  have hb := B.bytes
  have hr := B.returns
  have hts0 := atoms_spec (ws := .code yX6_shown cX6_shown 4 (some .int) :: wsL_law) B.pre
  have hts := xTail hts0
  have hown : s.vm.findClass RX6 = some m.cls := findClass_of_methodNamed B.named
  have hlocks := B.notSynchronized
  subst hsz
  have hD := hD0.self (sz := s.heap.size)
  generalize hAe : va_A [(h0, .inr (6, [.ref h1, .ref h2, .ref h3])), (h1, .inr (2, [.ref h4, .ref h5, .ref h6, .ref h7])), (h2, .inr (5, [.ref h1, .int 0])), (h3, .inr (4, [.ref h1, .ref h8, .int 0])), (h4, .inr (0, [.int 0, .ref z.1, .int 0])), (h5, .inr (0, [.int 0, .ref z.1, .int 0])), (h6, .inr (0, [.int 0, .ref z.1, .int 0])), (h7, .inr (0, [.int 0, .ref z.1, .int 0])), (h8, .inl (kc0, 8, .inl (fun _ => 0)))] s.heap.size = A at hD hX ⊢
  have hA : ∀ q : Nat, s.heap.size ≤ q → A q := fun q h => by rw [← hAe]; exact Or.inr h
  have hS : va_S A s.heap s.heap [] := va_S.rf
  have hl := lv_entry ([.ref h0]) (n := 4) (Nat.le_of_ble_eq_true rfl)
  rw [lg_entry_eq]
  generalize (lg_sl ([.ref h0]) ++ List.replicate (4 - (lg_sl ([.ref h0])).length) Slot.unset).toArray = ls at hl ⊢
  have hl : lv_has ls 4 [(0, .ref h0)] := hl
  refine lv_iconst (v := 0) hx hb dX6_shown_0 (by decide) ?_
  refine lv_istore_n (lv' := [(1, .int 0), (0, .ref h0)]) hx hb dX6_shown_1 rfl hl (by decide) rfl (fun ls hl => ?_)
  refine lv_iconst (v := 0) hx hb dX6_shown_2 (by decide) ?_
  refine lv_istore_n (lv' := [(2, .int 0), (1, .int 0), (0, .ref h0)]) hx hb dX6_shown_3 rfl hl (by decide) rfl (fun ls hl => ?_)
  refine lv_iload_n hx hb dX6_shown_4 rfl (lv_at hl 0 rfl) ?_
  refine lv_aload_n hx hb dX6_shown_5 rfl (lv_at hl 2 rfl) ?_
  refine va_get (D := (dC, dI)) (ci := 6) (v := .ref h1) (C := RX6) (T := TX6) (N := 3) hx hb hts in_X6 hown hK hP 0 rfl rfl 0 (by decide) (hts _ q_31) (fun _ h9 => h9) rfl dX6_shown_6 ?_
  refine va_get (D := (dC, dI)) (ci := 2) (v := .ref h4) (C := RX0) (T := TX0) (N := 4) hx hb hts in_X0 hown hK hP 1 rfl rfl 0 (by decide) (hts _ q_70) (fun _ h9 => h9) rfl dX6_shown_9 ?_
  have hF1 := va_free (wc := [(h4, .inr (0, [.int 0, .ref z.1, .int 0]))]) hD hS hA [4] rfl
  refine va_calli (va_runV (As := []) (rest := [.int 0]) ⟨hx, hb, hml, hown, hts⟩ (k9_size l hl9 dC dI z h4 s.heap.size 0 0) (cwV 0 hts (gV q_62 q_63 q_64 q_9 q_61) rfl rfl rfl (by decide +kernel) ⟨Nat.le_of_ble_eq_true rfl, Nat.le_of_ble_eq_true rfl⟩) ⟨pc_blind, va_recv hK hP (ci := 0) (q0 := 4) rfl rfl, fun U hU hW => ⟨rfl, pc_mk hP hD hK hS hX hT [4] [] rfl rfl rfl rfl hF1 hU hW⟩⟩ rfl rfl hl.1 rfl (lv_room (Nat.le_of_ble_eq_true rfl)) dX6_shown_12 ⟨(Nat.le_of_ble_eq_true rfl), (Nat.le_of_ble_eq_true rfl)⟩) hS (fun q9 _ h9 => hF1 q9 h9) hF1 (fun r4 u3 t3 H3 L3 ht3 hvm3 hw3 hB3 hz3 hk3 hS => ?_)
  obtain ⟨hP, hD, hK⟩ := pq_join (wr := [(h0, .inr (6, [.ref h1, .ref h2, .ref h3])), (h1, .inr (2, [.ref h4, .ref h5, .ref h6, .ref h7])), (h2, .inr (5, [.ref h1, .int 0])), (h3, .inr (4, [.ref h1, .ref h8, .int 0])), (h5, .inr (0, [.int 0, .ref z.1, .int 0])), (h6, .inr (0, [.int 0, .ref z.1, .int 0])), (h7, .inr (0, [.int 0, .ref z.1, .int 0])), (h8, .inl (kc0, 8, .inl (fun _ => 0)))]) (tr := [(kc0, .int)]) (wz := [(h0, .inr (6, [.ref h1, .ref h2, .ref h3])), (h1, .inr (2, [.ref h4, .ref h5, .ref h6, .ref h7])), (h2, .inr (5, [.ref h1, .int 0])), (h3, .inr (4, [.ref h1, .ref h8, .int 0])), (h5, .inr (0, [.int 0, .ref z.1, .int 0])), (h6, .inr (0, [.int 0, .ref z.1, .int 0])), (h7, .inr (0, [.int 0, .ref z.1, .int 0])), (h8, .inl (kc0, 8, .inl (fun _ => 0))), (h4, .inr (0, [.int 0, .ref z.1, .int 0]))]) (tz := [(kc0, .int)]) hP hD hK [4] [0, 1, 2, 3, 5, 6, 7, 8] [0] rfl rfl (by decide) (by decide) rfl hk3 hF1 hB3 ht3 hvm3 rfl rfl
  refine W.eq (g2 := F0 m 15 ls [.int 0, .int 0]) (by rw [hw3]) ?_
  refine lv_icmp_ge (tgt := 81) hx hb dX6_shown_15 (by decide) (fun _ => ?_) (fun cz => absurd (by decide) cz)
  refine lv_iload_n hx hb dX6_shown_81 rfl (lv_at hl 1 rfl) ?_
  exact W.iret (v := 0) hx hb hr (fun t9 ht9 hW9 => ⟨⟨0, (), rfl, rfl, pq_mk (wc := [(h0, .inr (6, [.ref h1, .ref h2, .ref h3])), (h1, .inr (2, [.ref h4, .ref h5, .ref h6, .ref h7])), (h2, .inr (5, [.ref h1, .int 0])), (h3, .inr (4, [.ref h1, .ref h8, .int 0])), (h4, .inr (0, [.int 0, .ref z.1, .int 0])), (h5, .inr (0, [.int 0, .ref z.1, .int 0])), (h6, .inr (0, [.int 0, .ref z.1, .int 0])), (h7, .inr (0, [.int 0, .ref z.1, .int 0])), (h8, .inl (kc0, 8, .inl (fun _ => 0)))]) (tc := [(kc0, .int)]) hP hD hK [0, 1, 2, 3, 8, 4, 5, 6, 7] [0] rfl rfl rfl rfl ht9 hW9⟩, hS.F ht9⟩) hS.2.2 dX6_shown_82

set_option maxHeartbeats 4000000 in
set_option maxRecDepth 100000 in
theorem k294_shown (l : Launch) (hl9 : l.stackTraces = false) (dC : Nat → ClassId) (dI : Nat → Nat → Nat) (z : XZ) (h0 h1 h2 h3 h4 : Nat) (sz : Nat) : Met l yX9_shown (.code yX9_shown cX9_shown 7 (some .int) :: wsL_law) ({ frames := 1, cells := 0, slots := 0, locals := 20 }) (va_Pc [.ref h0] (PC (dC, dI) [(h0, .inr (8, [.int 0, .ref h1, .ref h2, .ref h3, .ref h4, .int 0])), (h1, .inr (0, [.int 0, .ref z.1, .int 0])), (h2, .inr (0, [.int 0, .ref z.1, .int 0])), (h3, .inr (0, [.int 0, .ref z.1, .int 0])), (h4, .inr (0, [.int 0, .ref z.1, .int 0]))] [] sz z)) (va_Qi (fun (r : Int32) (_ : Unit) => r = 0) (fun (_ : Unit) (t : State) => PQ (dC, dI) [(h0, .inr (8, [.int 0, .ref h1, .ref h2, .ref h3, .ref h4, .int 0])), (h1, .inr (0, [.int 0, .ref z.1, .int 0])), (h2, .inr (0, [.int 0, .ref z.1, .int 0])), (h3, .inr (0, [.int 0, .ref z.1, .int 0])), (h4, .inr (0, [.int 0, .ref z.1, .int 0]))] [] (va_A [(h0, .inr (8, [.int 0, .ref h1, .ref h2, .ref h3, .ref h4, .int 0])), (h1, .inr (0, [.int 0, .ref z.1, .int 0])), (h2, .inr (0, [.int 0, .ref z.1, .int 0])), (h3, .inr (0, [.int 0, .ref z.1, .int 0])), (h4, .inr (0, [.int 0, .ref z.1, .int 0]))] sz) t) (va_A [(h0, .inr (8, [.int 0, .ref h1, .ref h2, .ref h3, .ref h4, .int 0])), (h1, .inr (0, [.int 0, .ref z.1, .int 0])), (h2, .inr (0, [.int 0, .ref z.1, .int 0])), (h3, .inr (0, [.int 0, .ref z.1, .int 0])), (h4, .inr (0, [.int 0, .ref z.1, .int 0]))] sz)) 0 0 (va_A [(h0, .inr (8, [.int 0, .ref h1, .ref h2, .ref h3, .ref h4, .int 0])), (h1, .inr (0, [.int 0, .ref z.1, .int 0])), (h2, .inr (0, [.int 0, .ref z.1, .int 0])), (h3, .inr (0, [.int 0, .ref z.1, .int 0])), (h4, .inr (0, [.int 0, .ref z.1, .int 0]))] sz) := by
  refine Met.ofW (cc := cX9_shown) (maxL := 7) (ret := (some .int)) (by decide) rfl ?_
  intro p e s m args below meth c s₁ B hml hv
  obtain ⟨rfl, hsz, hP, hK, hD0, hX, hT⟩ := hv
  have hx := B.exec
  have hb := B.bytes
  have hr := B.returns
  have hts0 := atoms_spec (ws := .code yX9_shown cX9_shown 7 (some .int) :: wsL_law) B.pre
  have hts := xTail hts0
  have hown : s.vm.findClass RX9 = some m.cls := findClass_of_methodNamed B.named
  have hlocks := B.notSynchronized
  subst hsz
  have hD := hD0.self (sz := s.heap.size)
  generalize hAe : va_A [(h0, .inr (8, [.int 0, .ref h1, .ref h2, .ref h3, .ref h4, .int 0])), (h1, .inr (0, [.int 0, .ref z.1, .int 0])), (h2, .inr (0, [.int 0, .ref z.1, .int 0])), (h3, .inr (0, [.int 0, .ref z.1, .int 0])), (h4, .inr (0, [.int 0, .ref z.1, .int 0]))] s.heap.size = A at hD hX ⊢
  have hA : ∀ q : Nat, s.heap.size ≤ q → A q := fun q h => by rw [← hAe]; exact Or.inr h
  have hS : va_S A s.heap s.heap [] := va_S.rf
  have hl := lv_entry ([.ref h0]) (n := 7) (Nat.le_of_ble_eq_true rfl)
  rw [lg_entry_eq]
  generalize (lg_sl ([.ref h0]) ++ List.replicate (7 - (lg_sl ([.ref h0])).length) Slot.unset).toArray = ls at hl ⊢
  have hl : lv_has ls 7 [(0, .ref h0)] := hl
  refine lv_aload_n hx hb dX9_shown_0 rfl (lv_at hl 0 rfl) ?_
  refine lv_iconst (v := 0) hx hb dX9_shown_1 (by decide) ?_
  refine va_put (D := (dC, dI)) (ci := 8) (v := .int 0) (ty := .int) (C := RX9) (T := TX9) (N := 6) hx hb hts in_X9 tyX9 tyX9_ok nmX9 hown hK hP hD hS 0 rfl rfl 0 (by decide) (hts _ q_230) (fun _ h9 => h9) rfl (by decide +kernel) rfl rfl (Nat.le_of_ble_eq_true rfl) dX9_shown_2 (fun H1 _ hP hD hS => ?_)
  have hP : va_P (dC, dI) xCl [(h0, .inr (8, [.int 0, .ref h1, .ref h2, .ref h3, .ref h4, .int 0])), (h1, .inr (0, [.int 0, .ref z.1, .int 0])), (h2, .inr (0, [.int 0, .ref z.1, .int 0])), (h3, .inr (0, [.int 0, .ref z.1, .int 0])), (h4, .inr (0, [.int 0, .ref z.1, .int 0]))] H1 := hP
  have hD : va_D A [(h0, .inr (8, [.int 0, .ref h1, .ref h2, .ref h3, .ref h4, .int 0])), (h1, .inr (0, [.int 0, .ref z.1, .int 0])), (h2, .inr (0, [.int 0, .ref z.1, .int 0])), (h3, .inr (0, [.int 0, .ref z.1, .int 0])), (h4, .inr (0, [.int 0, .ref z.1, .int 0]))] := hD
  refine lv_iconst (v := 0) hx hb dX9_shown_5 (by decide) ?_
  refine lv_istore_n (lv' := [(1, .int 0), (0, .ref h0)]) hx hb dX9_shown_6 rfl hl (by decide) rfl (fun ls hl => ?_)
  refine lv_iconst (v := 0) hx hb dX9_shown_7 (by decide) ?_
  refine lv_istore_n (lv' := [(2, .int 0), (1, .int 0), (0, .ref h0)]) hx hb dX9_shown_8 rfl hl (by decide) rfl (fun ls hl => ?_)
  refine lv_iload_n hx hb dX9_shown_9 rfl (lv_at hl 0 rfl) ?_
  refine lv_aload_n hx hb dX9_shown_10 rfl (lv_at hl 2 rfl) ?_
  refine va_get (D := (dC, dI)) (ci := 8) (v := .ref h1) (C := RX9) (T := TX9) (N := 6) hx hb hts in_X9 hown hK hP 0 rfl rfl 1 (by decide) (hts _ q_55) (fun _ h9 => h9) rfl dX9_shown_11 ?_
  have hF2 := va_free (wc := [(h1, .inr (0, [.int 0, .ref z.1, .int 0]))]) hD hS hA [1] rfl
  refine va_calli (va_runV (As := []) (rest := [.int 0]) ⟨hx, hb, hml, hown, hts⟩ (k9_size l hl9 dC dI z h1 H1.size 0 0) (cwV 0 hts (gV q_260 q_63 q_64 q_9 q_61) rfl rfl rfl (by decide +kernel) ⟨Nat.le_of_ble_eq_true rfl, Nat.le_of_ble_eq_true rfl⟩) ⟨pc_blind, va_recv hK hP (ci := 0) (q0 := 1) rfl rfl, fun U hU hW => ⟨rfl, pc_mk hP hD hK hS hX hT [1] [] rfl rfl rfl rfl hF2 hU hW⟩⟩ rfl rfl hl.1 rfl (lv_room (Nat.le_of_ble_eq_true rfl)) dX9_shown_14 ⟨(Nat.le_of_ble_eq_true rfl), (Nat.le_of_ble_eq_true rfl)⟩) hS (fun q9 _ h9 => hF2 q9 h9) hF2 (fun r5 u4 t4 H4 L4 ht4 hvm4 hw4 hB4 hz4 hk4 hS => ?_)
  obtain ⟨hP, hD, hK⟩ := pq_join (wr := [(h0, .inr (8, [.int 0, .ref h1, .ref h2, .ref h3, .ref h4, .int 0])), (h2, .inr (0, [.int 0, .ref z.1, .int 0])), (h3, .inr (0, [.int 0, .ref z.1, .int 0])), (h4, .inr (0, [.int 0, .ref z.1, .int 0]))]) (tr := []) (wz := [(h0, .inr (8, [.int 0, .ref h1, .ref h2, .ref h3, .ref h4, .int 0])), (h2, .inr (0, [.int 0, .ref z.1, .int 0])), (h3, .inr (0, [.int 0, .ref z.1, .int 0])), (h4, .inr (0, [.int 0, .ref z.1, .int 0])), (h1, .inr (0, [.int 0, .ref z.1, .int 0]))]) (tz := []) hP hD hK [1] [0, 2, 3, 4] [] rfl rfl (by decide) (by decide) rfl hk4 hF2 hB4 ht4 hvm4 rfl rfl
  refine W.eq (g2 := F0 m 17 ls [.int 0, .int 0]) (by rw [hw4]) ?_
  refine lv_icmp_ge (tgt := 119) hx hb dX9_shown_17 (by decide) (fun _ => ?_) (fun cz => absurd (by decide) cz)
  refine lv_iload_n hx hb dX9_shown_119 rfl (lv_at hl 1 rfl) ?_
  exact W.iret (v := 0) hx hb hr (fun t9 ht9 hW9 => ⟨⟨0, (), rfl, rfl, pq_mk (wc := [(h0, .inr (8, [.int 0, .ref h1, .ref h2, .ref h3, .ref h4, .int 0])), (h1, .inr (0, [.int 0, .ref z.1, .int 0])), (h2, .inr (0, [.int 0, .ref z.1, .int 0])), (h3, .inr (0, [.int 0, .ref z.1, .int 0])), (h4, .inr (0, [.int 0, .ref z.1, .int 0]))]) (tc := []) hP hD hK [0, 4, 1, 2, 3] [] rfl rfl rfl rfl ht9 hW9⟩, hS.F ht9⟩) hS.2.2 dX9_shown_120

set_option maxHeartbeats 4000000 in
set_option maxRecDepth 100000 in
theorem k295_activity (l : Launch) (hl9 : l.stackTraces = false) (dC : Nat → ClassId) (dI : Nat → Nat → Nat) (z : XZ) (h0 h1 h2 h3 h4 h5 h6 h7 h8 : Nat) (sz : Nat) (kc0 : ClassId) : Met l yX6_activity (.code yX6_activity cX6_activity 5 (some .long) :: wsL_law) ({ frames := 1, cells := 0, slots := 0, locals := 20 }) (va_Pc [.ref h0] (PC (dC, dI) [(h0, .inr (6, [.ref h1, .ref h2, .ref h3])), (h1, .inr (2, [.ref h4, .ref h5, .ref h6, .ref h7])), (h2, .inr (5, [.ref h1, .int 0])), (h3, .inr (4, [.ref h1, .ref h8, .int 0])), (h4, .inr (0, [.int 0, .ref z.1, .int 0])), (h5, .inr (0, [.int 0, .ref z.1, .int 0])), (h6, .inr (0, [.int 0, .ref z.1, .int 0])), (h7, .inr (0, [.int 0, .ref z.1, .int 0])), (h8, .inl (kc0, 8, .inl (fun _ => 0)))] [(kc0, .int)] sz z)) (va_Ql (fun (r : Int64) (_ : Unit) => r = 0) (fun (_ : Unit) (t : State) => PQ (dC, dI) [(h0, .inr (6, [.ref h1, .ref h2, .ref h3])), (h1, .inr (2, [.ref h4, .ref h5, .ref h6, .ref h7])), (h2, .inr (5, [.ref h1, .int 0])), (h3, .inr (4, [.ref h1, .ref h8, .int 0])), (h4, .inr (0, [.int 0, .ref z.1, .int 0])), (h5, .inr (0, [.int 0, .ref z.1, .int 0])), (h6, .inr (0, [.int 0, .ref z.1, .int 0])), (h7, .inr (0, [.int 0, .ref z.1, .int 0])), (h8, .inl (kc0, 8, .inl (fun _ => 0)))] [(kc0, .int)] (va_A [(h0, .inr (6, [.ref h1, .ref h2, .ref h3])), (h1, .inr (2, [.ref h4, .ref h5, .ref h6, .ref h7])), (h2, .inr (5, [.ref h1, .int 0])), (h3, .inr (4, [.ref h1, .ref h8, .int 0])), (h4, .inr (0, [.int 0, .ref z.1, .int 0])), (h5, .inr (0, [.int 0, .ref z.1, .int 0])), (h6, .inr (0, [.int 0, .ref z.1, .int 0])), (h7, .inr (0, [.int 0, .ref z.1, .int 0])), (h8, .inl (kc0, 8, .inl (fun _ => 0)))] sz) t) (va_A [(h0, .inr (6, [.ref h1, .ref h2, .ref h3])), (h1, .inr (2, [.ref h4, .ref h5, .ref h6, .ref h7])), (h2, .inr (5, [.ref h1, .int 0])), (h3, .inr (4, [.ref h1, .ref h8, .int 0])), (h4, .inr (0, [.int 0, .ref z.1, .int 0])), (h5, .inr (0, [.int 0, .ref z.1, .int 0])), (h6, .inr (0, [.int 0, .ref z.1, .int 0])), (h7, .inr (0, [.int 0, .ref z.1, .int 0])), (h8, .inl (kc0, 8, .inl (fun _ => 0)))] sz)) 0 0 (va_A [(h0, .inr (6, [.ref h1, .ref h2, .ref h3])), (h1, .inr (2, [.ref h4, .ref h5, .ref h6, .ref h7])), (h2, .inr (5, [.ref h1, .int 0])), (h3, .inr (4, [.ref h1, .ref h8, .int 0])), (h4, .inr (0, [.int 0, .ref z.1, .int 0])), (h5, .inr (0, [.int 0, .ref z.1, .int 0])), (h6, .inr (0, [.int 0, .ref z.1, .int 0])), (h7, .inr (0, [.int 0, .ref z.1, .int 0])), (h8, .inl (kc0, 8, .inl (fun _ => 0)))] sz) := by
  refine Met.ofW (cc := cX6_activity) (maxL := 5) (ret := (some .long)) (by decide) rfl ?_
  intro p e s m args below meth c s₁ B hml hv
  obtain ⟨rfl, hsz, hP, hK, hD0, hX, hT⟩ := hv
  have hx := B.exec
  have hb := B.bytes
  have hr := B.returns
  have hts0 := atoms_spec (ws := .code yX6_activity cX6_activity 5 (some .long) :: wsL_law) B.pre
  have hts := xTail hts0
  have hown : s.vm.findClass RX6 = some m.cls := findClass_of_methodNamed B.named
  have hlocks := B.notSynchronized
  subst hsz
  have hD := hD0.self (sz := s.heap.size)
  generalize hAe : va_A [(h0, .inr (6, [.ref h1, .ref h2, .ref h3])), (h1, .inr (2, [.ref h4, .ref h5, .ref h6, .ref h7])), (h2, .inr (5, [.ref h1, .int 0])), (h3, .inr (4, [.ref h1, .ref h8, .int 0])), (h4, .inr (0, [.int 0, .ref z.1, .int 0])), (h5, .inr (0, [.int 0, .ref z.1, .int 0])), (h6, .inr (0, [.int 0, .ref z.1, .int 0])), (h7, .inr (0, [.int 0, .ref z.1, .int 0])), (h8, .inl (kc0, 8, .inl (fun _ => 0)))] s.heap.size = A at hD hX ⊢
  have hA : ∀ q : Nat, s.heap.size ≤ q → A q := fun q h => by rw [← hAe]; exact Or.inr h
  have hS : va_S A s.heap s.heap [] := va_S.rf
  have hl := lv_entry ([.ref h0]) (n := 5) (Nat.le_of_ble_eq_true rfl)
  rw [lg_entry_eq]
  generalize (lg_sl ([.ref h0]) ++ List.replicate (5 - (lg_sl ([.ref h0])).length) Slot.unset).toArray = ls at hl ⊢
  have hl : lv_has ls 5 [(0, .ref h0)] := hl
  refine lv_lconst (v := 0) hx hb dX6_activity_0 (by decide) ?_
  refine lv_lstore_n (lv' := [(1, .long 0), (0, .ref h0)]) hx hb dX6_activity_1 rfl hl (by decide) rfl (fun ls hl => ?_)
  refine lv_iconst (v := 0) hx hb dX6_activity_2 (by decide) ?_
  refine lv_istore_n (lv' := [(3, .int 0), (1, .long 0), (0, .ref h0)]) hx hb dX6_activity_3 rfl hl (by decide) rfl (fun ls hl => ?_)
  refine lv_iload_n hx hb dX6_activity_4 rfl (lv_at hl 0 rfl) ?_
  refine lv_aload_n hx hb dX6_activity_5 rfl (lv_at hl 2 rfl) ?_
  refine va_get (D := (dC, dI)) (ci := 6) (v := .ref h1) (C := RX6) (T := TX6) (N := 3) hx hb hts in_X6 hown hK hP 0 rfl rfl 0 (by decide) (hts _ q_31) (fun _ h9 => h9) rfl dX6_activity_6 ?_
  refine va_get (D := (dC, dI)) (ci := 2) (v := .ref h4) (C := RX0) (T := TX0) (N := 4) hx hb hts in_X0 hown hK hP 1 rfl rfl 0 (by decide) (hts _ q_70) (fun _ h9 => h9) rfl dX6_activity_9 ?_
  have hF1 := va_free (wc := [(h4, .inr (0, [.int 0, .ref z.1, .int 0]))]) hD hS hA [4] rfl
  refine va_calli (va_runV (As := []) (rest := [.int 0]) ⟨hx, hb, hml, hown, hts⟩ (k9_size l hl9 dC dI z h4 s.heap.size 0 0) (cwV 0 hts (gV q_62 q_63 q_64 q_9 q_61) rfl rfl rfl (by decide +kernel) ⟨Nat.le_of_ble_eq_true rfl, Nat.le_of_ble_eq_true rfl⟩) ⟨pc_blind, va_recv hK hP (ci := 0) (q0 := 4) rfl rfl, fun U hU hW => ⟨rfl, pc_mk hP hD hK hS hX hT [4] [] rfl rfl rfl rfl hF1 hU hW⟩⟩ rfl rfl hl.1 rfl (lv_room (Nat.le_of_ble_eq_true rfl)) dX6_activity_12 ⟨(Nat.le_of_ble_eq_true rfl), (Nat.le_of_ble_eq_true rfl)⟩) hS (fun q9 _ h9 => hF1 q9 h9) hF1 (fun r4 u3 t3 H3 L3 ht3 hvm3 hw3 hB3 hz3 hk3 hS => ?_)
  obtain ⟨hP, hD, hK⟩ := pq_join (wr := [(h0, .inr (6, [.ref h1, .ref h2, .ref h3])), (h1, .inr (2, [.ref h4, .ref h5, .ref h6, .ref h7])), (h2, .inr (5, [.ref h1, .int 0])), (h3, .inr (4, [.ref h1, .ref h8, .int 0])), (h5, .inr (0, [.int 0, .ref z.1, .int 0])), (h6, .inr (0, [.int 0, .ref z.1, .int 0])), (h7, .inr (0, [.int 0, .ref z.1, .int 0])), (h8, .inl (kc0, 8, .inl (fun _ => 0)))]) (tr := [(kc0, .int)]) (wz := [(h0, .inr (6, [.ref h1, .ref h2, .ref h3])), (h1, .inr (2, [.ref h4, .ref h5, .ref h6, .ref h7])), (h2, .inr (5, [.ref h1, .int 0])), (h3, .inr (4, [.ref h1, .ref h8, .int 0])), (h5, .inr (0, [.int 0, .ref z.1, .int 0])), (h6, .inr (0, [.int 0, .ref z.1, .int 0])), (h7, .inr (0, [.int 0, .ref z.1, .int 0])), (h8, .inl (kc0, 8, .inl (fun _ => 0))), (h4, .inr (0, [.int 0, .ref z.1, .int 0]))]) (tz := [(kc0, .int)]) hP hD hK [4] [0, 1, 2, 3, 5, 6, 7, 8] [0] rfl rfl (by decide) (by decide) rfl hk3 hF1 hB3 ht3 hvm3 rfl rfl
  refine W.eq (g2 := F0 m 15 ls [.int 0, .int 0]) (by rw [hw3]) ?_
  refine lv_icmp_ge (tgt := 58) hx hb dX6_activity_15 (by decide) (fun _ => ?_) (fun cz => absurd (by decide) cz)
  refine lv_lload_n hx hb dX6_activity_58 rfl (lv_at hl 1 rfl) ?_
  exact W.lret (v := 0) hx hb hr (fun t9 ht9 hW9 => ⟨⟨0, (), rfl, rfl, pq_mk (wc := [(h0, .inr (6, [.ref h1, .ref h2, .ref h3])), (h1, .inr (2, [.ref h4, .ref h5, .ref h6, .ref h7])), (h2, .inr (5, [.ref h1, .int 0])), (h3, .inr (4, [.ref h1, .ref h8, .int 0])), (h4, .inr (0, [.int 0, .ref z.1, .int 0])), (h5, .inr (0, [.int 0, .ref z.1, .int 0])), (h6, .inr (0, [.int 0, .ref z.1, .int 0])), (h7, .inr (0, [.int 0, .ref z.1, .int 0])), (h8, .inl (kc0, 8, .inl (fun _ => 0)))]) (tc := [(kc0, .int)]) hP hD hK [0, 1, 2, 3, 8, 4, 5, 6, 7] [0] rfl rfl rfl rfl ht9 hW9⟩, hS.F ht9⟩) hS.2.2 dX6_activity_59

set_option maxHeartbeats 4000000 in
set_option maxRecDepth 100000 in
theorem k296_activity (l : Launch) (hl9 : l.stackTraces = false) (dC : Nat → ClassId) (dI : Nat → Nat → Nat) (z : XZ) (h0 h1 h2 h3 h4 : Nat) (sz : Nat) : Met l yX9_activity (.code yX9_activity cX9_activity 7 (some .long) :: wsL_law) ({ frames := 1, cells := 0, slots := 0, locals := 20 }) (va_Pc [.ref h0] (PC (dC, dI) [(h0, .inr (8, [.int 0, .ref h1, .ref h2, .ref h3, .ref h4, .int 0])), (h1, .inr (0, [.int 0, .ref z.1, .int 0])), (h2, .inr (0, [.int 0, .ref z.1, .int 0])), (h3, .inr (0, [.int 0, .ref z.1, .int 0])), (h4, .inr (0, [.int 0, .ref z.1, .int 0]))] [] sz z)) (va_Ql (fun (r : Int64) (_ : Unit) => r = 0) (fun (_ : Unit) (t : State) => PQ (dC, dI) [(h0, .inr (8, [.int 0, .ref h1, .ref h2, .ref h3, .ref h4, .int 0])), (h1, .inr (0, [.int 0, .ref z.1, .int 0])), (h2, .inr (0, [.int 0, .ref z.1, .int 0])), (h3, .inr (0, [.int 0, .ref z.1, .int 0])), (h4, .inr (0, [.int 0, .ref z.1, .int 0]))] [] (va_A [(h0, .inr (8, [.int 0, .ref h1, .ref h2, .ref h3, .ref h4, .int 0])), (h1, .inr (0, [.int 0, .ref z.1, .int 0])), (h2, .inr (0, [.int 0, .ref z.1, .int 0])), (h3, .inr (0, [.int 0, .ref z.1, .int 0])), (h4, .inr (0, [.int 0, .ref z.1, .int 0]))] sz) t) (va_A [(h0, .inr (8, [.int 0, .ref h1, .ref h2, .ref h3, .ref h4, .int 0])), (h1, .inr (0, [.int 0, .ref z.1, .int 0])), (h2, .inr (0, [.int 0, .ref z.1, .int 0])), (h3, .inr (0, [.int 0, .ref z.1, .int 0])), (h4, .inr (0, [.int 0, .ref z.1, .int 0]))] sz)) 0 0 (va_A [(h0, .inr (8, [.int 0, .ref h1, .ref h2, .ref h3, .ref h4, .int 0])), (h1, .inr (0, [.int 0, .ref z.1, .int 0])), (h2, .inr (0, [.int 0, .ref z.1, .int 0])), (h3, .inr (0, [.int 0, .ref z.1, .int 0])), (h4, .inr (0, [.int 0, .ref z.1, .int 0]))] sz) := by
  refine Met.ofW (cc := cX9_activity) (maxL := 7) (ret := (some .long)) (by decide) rfl ?_
  intro p e s m args below meth c s₁ B hml hv
  obtain ⟨rfl, hsz, hP, hK, hD0, hX, hT⟩ := hv
  have hx := B.exec
  have hb := B.bytes
  have hr := B.returns
  have hts0 := atoms_spec (ws := .code yX9_activity cX9_activity 7 (some .long) :: wsL_law) B.pre
  have hts := xTail hts0
  have hown : s.vm.findClass RX9 = some m.cls := findClass_of_methodNamed B.named
  have hlocks := B.notSynchronized
  subst hsz
  have hD := hD0.self (sz := s.heap.size)
  generalize hAe : va_A [(h0, .inr (8, [.int 0, .ref h1, .ref h2, .ref h3, .ref h4, .int 0])), (h1, .inr (0, [.int 0, .ref z.1, .int 0])), (h2, .inr (0, [.int 0, .ref z.1, .int 0])), (h3, .inr (0, [.int 0, .ref z.1, .int 0])), (h4, .inr (0, [.int 0, .ref z.1, .int 0]))] s.heap.size = A at hD hX ⊢
  have hA : ∀ q : Nat, s.heap.size ≤ q → A q := fun q h => by rw [← hAe]; exact Or.inr h
  have hS : va_S A s.heap s.heap [] := va_S.rf
  have hl := lv_entry ([.ref h0]) (n := 7) (Nat.le_of_ble_eq_true rfl)
  rw [lg_entry_eq]
  generalize (lg_sl ([.ref h0]) ++ List.replicate (7 - (lg_sl ([.ref h0])).length) Slot.unset).toArray = ls at hl ⊢
  have hl : lv_has ls 7 [(0, .ref h0)] := hl
  refine lv_aload_n hx hb dX9_activity_0 rfl (lv_at hl 0 rfl) ?_
  refine lv_iconst (v := 0) hx hb dX9_activity_1 (by decide) ?_
  refine va_put (D := (dC, dI)) (ci := 8) (v := .int 0) (ty := .int) (C := RX9) (T := TX9) (N := 6) hx hb hts in_X9 tyX9 tyX9_ok nmX9 hown hK hP hD hS 0 rfl rfl 0 (by decide) (hts _ q_230) (fun _ h9 => h9) rfl (by decide +kernel) rfl rfl (Nat.le_of_ble_eq_true rfl) dX9_activity_2 (fun H1 _ hP hD hS => ?_)
  have hP : va_P (dC, dI) xCl [(h0, .inr (8, [.int 0, .ref h1, .ref h2, .ref h3, .ref h4, .int 0])), (h1, .inr (0, [.int 0, .ref z.1, .int 0])), (h2, .inr (0, [.int 0, .ref z.1, .int 0])), (h3, .inr (0, [.int 0, .ref z.1, .int 0])), (h4, .inr (0, [.int 0, .ref z.1, .int 0]))] H1 := hP
  have hD : va_D A [(h0, .inr (8, [.int 0, .ref h1, .ref h2, .ref h3, .ref h4, .int 0])), (h1, .inr (0, [.int 0, .ref z.1, .int 0])), (h2, .inr (0, [.int 0, .ref z.1, .int 0])), (h3, .inr (0, [.int 0, .ref z.1, .int 0])), (h4, .inr (0, [.int 0, .ref z.1, .int 0]))] := hD
  refine lv_lconst (v := 0) hx hb dX9_activity_5 (by decide) ?_
  refine lv_lstore_n (lv' := [(1, .long 0), (0, .ref h0)]) hx hb dX9_activity_6 rfl hl (by decide) rfl (fun ls hl => ?_)
  refine lv_iconst (v := 0) hx hb dX9_activity_7 (by decide) ?_
  refine lv_istore_n (lv' := [(3, .int 0), (1, .long 0), (0, .ref h0)]) hx hb dX9_activity_8 rfl hl (by decide) rfl (fun ls hl => ?_)
  refine lv_iload_n hx hb dX9_activity_9 rfl (lv_at hl 0 rfl) ?_
  refine lv_aload_n hx hb dX9_activity_10 rfl (lv_at hl 2 rfl) ?_
  refine va_get (D := (dC, dI)) (ci := 8) (v := .ref h1) (C := RX9) (T := TX9) (N := 6) hx hb hts in_X9 hown hK hP 0 rfl rfl 1 (by decide) (hts _ q_55) (fun _ h9 => h9) rfl dX9_activity_11 ?_
  have hF2 := va_free (wc := [(h1, .inr (0, [.int 0, .ref z.1, .int 0]))]) hD hS hA [1] rfl
  refine va_calli (va_runV (As := []) (rest := [.int 0]) ⟨hx, hb, hml, hown, hts⟩ (k9_size l hl9 dC dI z h1 H1.size 0 0) (cwV 0 hts (gV q_260 q_63 q_64 q_9 q_61) rfl rfl rfl (by decide +kernel) ⟨Nat.le_of_ble_eq_true rfl, Nat.le_of_ble_eq_true rfl⟩) ⟨pc_blind, va_recv hK hP (ci := 0) (q0 := 1) rfl rfl, fun U hU hW => ⟨rfl, pc_mk hP hD hK hS hX hT [1] [] rfl rfl rfl rfl hF2 hU hW⟩⟩ rfl rfl hl.1 rfl (lv_room (Nat.le_of_ble_eq_true rfl)) dX9_activity_14 ⟨(Nat.le_of_ble_eq_true rfl), (Nat.le_of_ble_eq_true rfl)⟩) hS (fun q9 _ h9 => hF2 q9 h9) hF2 (fun r5 u4 t4 H4 L4 ht4 hvm4 hw4 hB4 hz4 hk4 hS => ?_)
  obtain ⟨hP, hD, hK⟩ := pq_join (wr := [(h0, .inr (8, [.int 0, .ref h1, .ref h2, .ref h3, .ref h4, .int 0])), (h2, .inr (0, [.int 0, .ref z.1, .int 0])), (h3, .inr (0, [.int 0, .ref z.1, .int 0])), (h4, .inr (0, [.int 0, .ref z.1, .int 0]))]) (tr := []) (wz := [(h0, .inr (8, [.int 0, .ref h1, .ref h2, .ref h3, .ref h4, .int 0])), (h2, .inr (0, [.int 0, .ref z.1, .int 0])), (h3, .inr (0, [.int 0, .ref z.1, .int 0])), (h4, .inr (0, [.int 0, .ref z.1, .int 0])), (h1, .inr (0, [.int 0, .ref z.1, .int 0]))]) (tz := []) hP hD hK [1] [0, 2, 3, 4] [] rfl rfl (by decide) (by decide) rfl hk4 hF2 hB4 ht4 hvm4 rfl rfl
  refine W.eq (g2 := F0 m 17 ls [.int 0, .int 0]) (by rw [hw4]) ?_
  refine lv_icmp_ge (tgt := 106) hx hb dX9_activity_17 (by decide) (fun _ => ?_) (fun cz => absurd (by decide) cz)
  refine lv_lload_n hx hb dX9_activity_106 rfl (lv_at hl 1 rfl) ?_
  exact W.lret (v := 0) hx hb hr (fun t9 ht9 hW9 => ⟨⟨0, (), rfl, rfl, pq_mk (wc := [(h0, .inr (8, [.int 0, .ref h1, .ref h2, .ref h3, .ref h4, .int 0])), (h1, .inr (0, [.int 0, .ref z.1, .int 0])), (h2, .inr (0, [.int 0, .ref z.1, .int 0])), (h3, .inr (0, [.int 0, .ref z.1, .int 0])), (h4, .inr (0, [.int 0, .ref z.1, .int 0]))]) (tc := []) hP hD hK [0, 4, 1, 2, 3] [] rfl rfl rfl rfl ht9 hW9⟩, hS.F ht9⟩) hS.2.2 dX9_activity_107

set_option maxHeartbeats 4000000 in
set_option maxRecDepth 100000 in
theorem k297_isEmpty (l : Launch) (hl9 : l.stackTraces = false) (dC : Nat → ClassId) (dI : Nat → Nat → Nat) (z : XZ) (h0 : Nat) (sz : Nat) : Met l yJx4a65c_isEmpty_aae02 (.code yJx4a65c_isEmpty_aae02 cJx4a65c_isEmpty_aae02 1 (some .boolean) :: wsL_law) ({ frames := 0, cells := 0, slots := 0, locals := 0 }) (va_Pc [.ref h0] (PC (dC, dI) [(h0, .inr (0, [.int 0, .ref z.1, .int 0]))] [] sz z)) (va_Qi (fun (r : Int32) (_ : Unit) => r = 1) (fun (_ : Unit) (t : State) => PQ (dC, dI) [(h0, .inr (0, [.int 0, .ref z.1, .int 0]))] [] (va_A [(h0, .inr (0, [.int 0, .ref z.1, .int 0]))] sz) t) (va_A [(h0, .inr (0, [.int 0, .ref z.1, .int 0]))] sz)) 0 0 (va_A [(h0, .inr (0, [.int 0, .ref z.1, .int 0]))] sz) := by
  refine Met.ofW (cc := cJx4a65c_isEmpty_aae02) (maxL := 1) (ret := (some .boolean)) (by decide) rfl ?_
  intro p e s m args below meth c s₁ B hml hv
  obtain ⟨rfl, hsz, hP, hK, hD0, hX, hT⟩ := hv
  have hx := B.exec
  have hb := B.bytes
  have hr := B.returns
  have hts0 := atoms_spec (ws := .code yJx4a65c_isEmpty_aae02 cJx4a65c_isEmpty_aae02 1 (some .boolean) :: wsL_law) B.pre
  have hts := xTail hts0
  have hown : s.vm.findClass RJx4a65c = some m.cls := findClass_of_methodNamed B.named
  have hlocks := B.notSynchronized
  subst hsz
  have hD := hD0.self (sz := s.heap.size)
  generalize hAe : va_A [(h0, .inr (0, [.int 0, .ref z.1, .int 0]))] s.heap.size = A at hD hX ⊢
  have hA : ∀ q : Nat, s.heap.size ≤ q → A q := fun q h => by rw [← hAe]; exact Or.inr h
  have hS : va_S A s.heap s.heap [] := va_S.rf
  have hl := lv_entry ([.ref h0]) (n := 1) (Nat.le_of_ble_eq_true rfl)
  rw [lg_entry_eq]
  generalize (lg_sl ([.ref h0]) ++ List.replicate (1 - (lg_sl ([.ref h0])).length) Slot.unset).toArray = ls at hl ⊢
  have hl : lv_has ls 1 [(0, .ref h0)] := hl
  refine lv_aload_n hx hb dJx4a65c_isEmpty_aae02_0 rfl (lv_at hl 0 rfl) ?_
  refine va_get (D := (dC, dI)) (ci := 0) (v := .int 0) (C := RJx4a65c) (T := TJx4a65c) (N := 3) hx hb hts in_Jx4a65c hown hK hP 0 rfl rfl 2 (by decide) (hts _ q_60) (fun _ h9 => h9) rfl dJx4a65c_isEmpty_aae02_1 ?_
  refine lv_if_ne (tgt := 11) hx hb dJx4a65c_isEmpty_aae02_4 (by decide) (fun cz => absurd (by decide) cz) (fun _ => ?_)
  refine lv_iconst (v := 1) hx hb dJx4a65c_isEmpty_aae02_7 (by decide) ?_
  refine lv_goto (tgt := 12) hx hb dJx4a65c_isEmpty_aae02_8 (by decide) ?_
  exact W.zret (v := 1) (ty := .boolean) hx hb hr rfl (fun t9 ht9 hW9 => ⟨⟨1, (), rfl, rfl, pq_mk (wc := [(h0, .inr (0, [.int 0, .ref z.1, .int 0]))]) (tc := []) hP hD hK [0] [] rfl rfl rfl rfl ht9 hW9⟩, hS.F ht9⟩) hS.2.2 dJx4a65c_isEmpty_aae02_12

set_option maxHeartbeats 4000000 in
set_option maxRecDepth 100000 in
theorem k298_requireSomeNet (l : Launch) (hl9 : l.stackTraces = false) (dC : Nat → ClassId) (dI : Nat → Nat → Nat) (z : XZ) (h0 h1 h2 h3 h4 h5 h6 h7 h8 : Nat) (sz : Nat) (kc0 : ClassId) : vx_Met l yX6_requireSomeNet (.code yX6_requireSomeNet cX6_requireSomeNet 1 none :: wsL_law) ({ frames := 7, cells := 1, slots := 6, locals := 100 }) (va_Pc [.ref h0] (PC (dC, dI) [(h0, .inr (6, [.ref h1, .ref h2, .ref h3])), (h1, .inr (2, [.ref h4, .ref h5, .ref h6, .ref h7])), (h2, .inr (5, [.ref h1, .int 0])), (h3, .inr (4, [.ref h1, .ref h8, .int 0])), (h4, .inr (0, [.int 0, .ref z.1, .int 0])), (h5, .inr (0, [.int 0, .ref z.1, .int 0])), (h6, .inr (0, [.int 0, .ref z.1, .int 0])), (h7, .inr (0, [.int 0, .ref z.1, .int 0])), (h8, .inl (kc0, 8, .inl (fun _ => 0)))] [(kc0, .int)] sz z)) (va_Qv (fun (_ : Unit) => False) (fun _ _ => True) (va_A [(h0, .inr (6, [.ref h1, .ref h2, .ref h3])), (h1, .inr (2, [.ref h4, .ref h5, .ref h6, .ref h7])), (h2, .inr (5, [.ref h1, .int 0])), (h3, .inr (4, [.ref h1, .ref h8, .int 0])), (h4, .inr (0, [.int 0, .ref z.1, .int 0])), (h5, .inr (0, [.int 0, .ref z.1, .int 0])), (h6, .inr (0, [.int 0, .ref z.1, .int 0])), (h7, .inr (0, [.int 0, .ref z.1, .int 0])), (h8, .inl (kc0, 8, .inl (fun _ => 0)))] sz)) (vx_X (fun (_ : Unit) => True) (fun (E : String) (_ : Unit) (_ : State) => E = "java/lang/ArithmeticException") (va_A [(h0, .inr (6, [.ref h1, .ref h2, .ref h3])), (h1, .inr (2, [.ref h4, .ref h5, .ref h6, .ref h7])), (h2, .inr (5, [.ref h1, .int 0])), (h3, .inr (4, [.ref h1, .ref h8, .int 0])), (h4, .inr (0, [.int 0, .ref z.1, .int 0])), (h5, .inr (0, [.int 0, .ref z.1, .int 0])), (h6, .inr (0, [.int 0, .ref z.1, .int 0])), (h7, .inr (0, [.int 0, .ref z.1, .int 0])), (h8, .inl (kc0, 8, .inl (fun _ => 0)))] sz)) 1 6 (va_A [(h0, .inr (6, [.ref h1, .ref h2, .ref h3])), (h1, .inr (2, [.ref h4, .ref h5, .ref h6, .ref h7])), (h2, .inr (5, [.ref h1, .int 0])), (h3, .inr (4, [.ref h1, .ref h8, .int 0])), (h4, .inr (0, [.int 0, .ref z.1, .int 0])), (h5, .inr (0, [.int 0, .ref z.1, .int 0])), (h6, .inr (0, [.int 0, .ref z.1, .int 0])), (h7, .inr (0, [.int 0, .ref z.1, .int 0])), (h8, .inl (kc0, 8, .inl (fun _ => 0)))] sz) := by
  refine vx_ofW (cc := cX6_requireSomeNet) (maxL := 1) (ret := none) (by decide) rfl ?_
  intro p e s m args below meth c s₁ B hml hnt hv
  obtain ⟨rfl, hsz, hP, hK, hD0, hX, hT⟩ := hv
  have hx := B.exec
  have hb := B.bytes
  have hr := B.returns
  have hts0 := atoms_spec (ws := .code yX6_requireSomeNet cX6_requireSomeNet 1 none :: wsL_law) B.pre
  have hts := xTail hts0
  have hown : s.vm.findClass RX6 = some m.cls := findClass_of_methodNamed B.named
  have hlocks := B.notSynchronized
  subst hsz
  have hD := hD0.self (sz := s.heap.size)
  generalize hAe : va_A [(h0, .inr (6, [.ref h1, .ref h2, .ref h3])), (h1, .inr (2, [.ref h4, .ref h5, .ref h6, .ref h7])), (h2, .inr (5, [.ref h1, .int 0])), (h3, .inr (4, [.ref h1, .ref h8, .int 0])), (h4, .inr (0, [.int 0, .ref z.1, .int 0])), (h5, .inr (0, [.int 0, .ref z.1, .int 0])), (h6, .inr (0, [.int 0, .ref z.1, .int 0])), (h7, .inr (0, [.int 0, .ref z.1, .int 0])), (h8, .inl (kc0, 8, .inl (fun _ => 0)))] s.heap.size = A at hD hX ⊢
  have hA : ∀ q : Nat, s.heap.size ≤ q → A q := fun q h => by rw [← hAe]; exact Or.inr h
  have hS : va_S A s.heap s.heap [] := va_S.rf
  have hl := lv_entry ([.ref h0]) (n := 1) (Nat.le_of_ble_eq_true rfl)
  rw [lg_entry_eq]
  generalize (lg_sl ([.ref h0]) ++ List.replicate (1 - (lg_sl ([.ref h0])).length) Slot.unset).toArray = ls at hl ⊢
  have hl : lv_has ls 1 [(0, .ref h0)] := hl
  refine lv_aload_n hx hb dX6_requireSomeNet_0 rfl (lv_at hl 0 rfl) ?_
  refine va_get (D := (dC, dI)) (ci := 6) (v := .ref h1) (C := RX6) (T := TX6) (N := 3) hx hb hts in_X6 hown hK hP 0 rfl rfl 0 (by decide) (hts _ q_31) (fun _ h9 => h9) rfl dX6_requireSomeNet_1 ?_
  refine va_get (D := (dC, dI)) (ci := 2) (v := .ref h4) (C := RX0) (T := TX0) (N := 4) hx hb hts in_X0 hown hK hP 1 rfl rfl 0 (by decide) (hts _ q_70) (fun _ h9 => h9) rfl dX6_requireSomeNet_4 ?_
  have hF1 := va_free (wc := [(h4, .inr (0, [.int 0, .ref z.1, .int 0]))]) hD hS hA [4] rfl
  refine va_calli (va_runV (As := []) (rest := []) ⟨hx, hb, hml, hown, hts⟩ (k297_isEmpty l hl9 dC dI z h4 s.heap.size) (cwV 0 hts (gV q_692 q_693 q_694 q_9 q_691) rfl rfl rfl (by decide +kernel) ⟨Nat.le_of_ble_eq_true rfl, Nat.le_of_ble_eq_true rfl⟩) ⟨pc_blind, va_recv hK hP (ci := 0) (q0 := 4) rfl rfl, fun U hU hW => ⟨rfl, pc_mk hP hD hK hS hX hT [4] [] rfl rfl rfl rfl hF1 hU hW⟩⟩ rfl rfl hl.1 rfl (lv_room (Nat.le_of_ble_eq_true rfl)) dX6_requireSomeNet_7 ⟨(Nat.le_of_ble_eq_true rfl), (Nat.le_of_ble_eq_true rfl)⟩) hS (fun q9 _ h9 => hF1 q9 h9) hF1 (fun r4 u3 t3 H3 L3 ht3 hvm3 hw3 hB3 hz3 hk3 hS => ?_)
  obtain ⟨hP, hD, hK⟩ := pq_join (wr := [(h0, .inr (6, [.ref h1, .ref h2, .ref h3])), (h1, .inr (2, [.ref h4, .ref h5, .ref h6, .ref h7])), (h2, .inr (5, [.ref h1, .int 0])), (h3, .inr (4, [.ref h1, .ref h8, .int 0])), (h5, .inr (0, [.int 0, .ref z.1, .int 0])), (h6, .inr (0, [.int 0, .ref z.1, .int 0])), (h7, .inr (0, [.int 0, .ref z.1, .int 0])), (h8, .inl (kc0, 8, .inl (fun _ => 0)))]) (tr := [(kc0, .int)]) (wz := [(h0, .inr (6, [.ref h1, .ref h2, .ref h3])), (h1, .inr (2, [.ref h4, .ref h5, .ref h6, .ref h7])), (h2, .inr (5, [.ref h1, .int 0])), (h3, .inr (4, [.ref h1, .ref h8, .int 0])), (h5, .inr (0, [.int 0, .ref z.1, .int 0])), (h6, .inr (0, [.int 0, .ref z.1, .int 0])), (h7, .inr (0, [.int 0, .ref z.1, .int 0])), (h8, .inl (kc0, 8, .inl (fun _ => 0))), (h4, .inr (0, [.int 0, .ref z.1, .int 0]))]) (tz := [(kc0, .int)]) hP hD hK [4] [0, 1, 2, 3, 5, 6, 7, 8] [0] rfl rfl (by decide) (by decide) rfl hk3 hF1 hB3 ht3 hvm3 rfl rfl
  refine W.eq (g2 := F0 m 10 ls [.int 1]) (by rw [hw3]) ?_
  refine lv_if_eq (tgt := 24) hx hb dX6_requireSomeNet_10 (by decide) (fun cz => absurd cz (by decide)) (fun _ => ?_)
  obtain ⟨sa9, hsa9⟩ := hT.1 (271, "there are no nets") (by decide)
  exact vx_throwSW (cls := "java/lang/ArithmeticException") (names := ["java/lang/RuntimeException", "java/lang/Exception"]) hx hb hl9 hown (by decide +kernel) (by decide +kernel) (hts _ q_695) (hts _ q_696) hsa9 (xhat_273 hts hT) xot_273 hX.2.2.2.1 hX.2.2.2.2 hS (hl.1.trans hml.symm) dX6_requireSomeNet_13 dX6_requireSomeNet_16 dX6_requireSomeNet_17 dX6_requireSomeNet_20 dX6_requireSomeNet_23 (fun x9 hx9 => (hnt x9 hx9).elim) (by decide) (by decide) (Nat.le_of_ble_eq_true rfl) (Nat.le_of_ble_eq_true rfl) hlocks (fun t9 hv9 h1 h2 => ⟨(), trivial, rfl, xF hS h1 h2⟩) hS.2.2 (by decide) (by decide)

set_option maxHeartbeats 4000000 in
set_option maxRecDepth 100000 in
theorem k299_knownShare (l : Launch) (hl9 : l.stackTraces = false) (dC : Nat → ClassId) (dI : Nat → Nat → Nat) (z : XZ) (h0 h1 h2 h3 h4 h5 h6 h7 h8 : Nat) (sz : Nat) (kc0 : ClassId) : vx_Met l yX6_knownShare (.code yX6_knownShare cX6_knownShare 3 (some .float) :: wsL_law) ({ frames := 8, cells := 1, slots := 6, locals := 120 }) (va_Pc [.ref h0] (PC (dC, dI) [(h0, .inr (6, [.ref h1, .ref h2, .ref h3])), (h1, .inr (2, [.ref h4, .ref h5, .ref h6, .ref h7])), (h2, .inr (5, [.ref h1, .int 0])), (h3, .inr (4, [.ref h1, .ref h8, .int 0])), (h4, .inr (0, [.int 0, .ref z.1, .int 0])), (h5, .inr (0, [.int 0, .ref z.1, .int 0])), (h6, .inr (0, [.int 0, .ref z.1, .int 0])), (h7, .inr (0, [.int 0, .ref z.1, .int 0])), (h8, .inl (kc0, 8, .inl (fun _ => 0)))] [(kc0, .int)] sz z)) (va_Qf (fun (_ : UInt32) (_ : Unit) => False) (fun _ _ => True) (va_A [(h0, .inr (6, [.ref h1, .ref h2, .ref h3])), (h1, .inr (2, [.ref h4, .ref h5, .ref h6, .ref h7])), (h2, .inr (5, [.ref h1, .int 0])), (h3, .inr (4, [.ref h1, .ref h8, .int 0])), (h4, .inr (0, [.int 0, .ref z.1, .int 0])), (h5, .inr (0, [.int 0, .ref z.1, .int 0])), (h6, .inr (0, [.int 0, .ref z.1, .int 0])), (h7, .inr (0, [.int 0, .ref z.1, .int 0])), (h8, .inl (kc0, 8, .inl (fun _ => 0)))] sz)) (vx_X (fun (_ : Unit) => True) (fun (E : String) (_ : Unit) (_ : State) => E = "java/lang/ArithmeticException") (va_A [(h0, .inr (6, [.ref h1, .ref h2, .ref h3])), (h1, .inr (2, [.ref h4, .ref h5, .ref h6, .ref h7])), (h2, .inr (5, [.ref h1, .int 0])), (h3, .inr (4, [.ref h1, .ref h8, .int 0])), (h4, .inr (0, [.int 0, .ref z.1, .int 0])), (h5, .inr (0, [.int 0, .ref z.1, .int 0])), (h6, .inr (0, [.int 0, .ref z.1, .int 0])), (h7, .inr (0, [.int 0, .ref z.1, .int 0])), (h8, .inl (kc0, 8, .inl (fun _ => 0)))] sz)) 1 6 (va_A [(h0, .inr (6, [.ref h1, .ref h2, .ref h3])), (h1, .inr (2, [.ref h4, .ref h5, .ref h6, .ref h7])), (h2, .inr (5, [.ref h1, .int 0])), (h3, .inr (4, [.ref h1, .ref h8, .int 0])), (h4, .inr (0, [.int 0, .ref z.1, .int 0])), (h5, .inr (0, [.int 0, .ref z.1, .int 0])), (h6, .inr (0, [.int 0, .ref z.1, .int 0])), (h7, .inr (0, [.int 0, .ref z.1, .int 0])), (h8, .inl (kc0, 8, .inl (fun _ => 0)))] sz) := by
  refine vx_ofW (cc := cX6_knownShare) (maxL := 3) (ret := (some .float)) (by decide) rfl ?_
  intro p e s m args below meth c s₁ B hml hnt hv
  obtain ⟨rfl, hsz, hP, hK, hD0, hX, hT⟩ := hv
  have hx := B.exec
  have hb := B.bytes
  have hr := B.returns
  have hts0 := atoms_spec (ws := .code yX6_knownShare cX6_knownShare 3 (some .float) :: wsL_law) B.pre
  have hts := xTail hts0
  have hown : s.vm.findClass RX6 = some m.cls := findClass_of_methodNamed B.named
  have hlocks := B.notSynchronized
  subst hsz
  have hD := hD0.self (sz := s.heap.size)
  generalize hAe : va_A [(h0, .inr (6, [.ref h1, .ref h2, .ref h3])), (h1, .inr (2, [.ref h4, .ref h5, .ref h6, .ref h7])), (h2, .inr (5, [.ref h1, .int 0])), (h3, .inr (4, [.ref h1, .ref h8, .int 0])), (h4, .inr (0, [.int 0, .ref z.1, .int 0])), (h5, .inr (0, [.int 0, .ref z.1, .int 0])), (h6, .inr (0, [.int 0, .ref z.1, .int 0])), (h7, .inr (0, [.int 0, .ref z.1, .int 0])), (h8, .inl (kc0, 8, .inl (fun _ => 0)))] s.heap.size = A at hD hX ⊢
  have hA : ∀ q : Nat, s.heap.size ≤ q → A q := fun q h => by rw [← hAe]; exact Or.inr h
  have hS : va_S A s.heap s.heap [] := va_S.rf
  have hl := lv_entry ([.ref h0]) (n := 3) (Nat.le_of_ble_eq_true rfl)
  rw [lg_entry_eq]
  generalize (lg_sl ([.ref h0]) ++ List.replicate (3 - (lg_sl ([.ref h0])).length) Slot.unset).toArray = ls at hl ⊢
  have hl : lv_has ls 3 [(0, .ref h0)] := hl
  refine lv_aload_n hx hb dX6_knownShare_0 rfl (lv_at hl 0 rfl) ?_
  have hF1 := va_free (wc := [(h0, .inr (6, [.ref h1, .ref h2, .ref h3])), (h1, .inr (2, [.ref h4, .ref h5, .ref h6, .ref h7])), (h2, .inr (5, [.ref h1, .int 0])), (h3, .inr (4, [.ref h1, .ref h8, .int 0])), (h4, .inr (0, [.int 0, .ref z.1, .int 0])), (h5, .inr (0, [.int 0, .ref z.1, .int 0])), (h6, .inr (0, [.int 0, .ref z.1, .int 0])), (h7, .inr (0, [.int 0, .ref z.1, .int 0])), (h8, .inl (kc0, 8, .inl (fun _ => 0)))]) hD hS hA [0, 1, 2, 3, 4, 5, 6, 7, 8] rfl
  refine vx_callv (SX := Unit) (vx_runV (As := []) (rest := []) ⟨hx, hb, hml, hown, hts⟩ (k298_requireSomeNet l hl9 dC dI z h0 h1 h2 h3 h4 h5 h6 h7 h8 s.heap.size kc0) (cwV 0 hts (gV q_698 q_699 q_700 q_69 q_697) rfl rfl rfl (by decide +kernel) ⟨Nat.le_of_ble_eq_true rfl, Nat.le_of_ble_eq_true rfl⟩) ⟨pc_blind, va_recv hK hP (ci := 6) (q0 := 0) rfl rfl, fun U hU hW => ⟨rfl, pc_mk hP hD hK hS hX hT [0, 1, 2, 3, 4, 5, 6, 7, 8] [0] rfl rfl rfl rfl hF1 hU hW⟩⟩ rfl rfl hl.1 rfl (lv_room (Nat.le_of_ble_eq_true rfl)) dX6_knownShare_1 ⟨(Nat.le_of_ble_eq_true rfl), (Nat.le_of_ble_eq_true rfl)⟩) hS (fun q9 _ h9 => hF1 q9 h9) hF1 (fun q9 _ h9 => hF1 q9 h9) (fun E3 ce3 x3 v3 t3 H3 L3 ht3 hvm3 hw3 hB3 hz3 hk3 hS hc3 hn3 hf3 => ?_) (fun _ _ _ _ _ _ hw9 _ _ _ _ => hw9.elim)
  obtain ⟨hP, hD⟩ := pq_rest (wr := []) hP hD [0, 1, 2, 3, 4, 5, 6, 7, 8] [] rfl rfl (by decide) (by decide) hk3 hF1
  exact vx_out (fun x9 hx9 => (hnt x9 hx9).elim) hlocks hc3 hn3 hf3 (fun t9 ht9 hv9 => ⟨(), trivial, hB3, hS.F ht9⟩) hS.2.2 (by decide) (by decide)

set_option maxHeartbeats 4000000 in
set_option maxRecDepth 100000 in
theorem k300_knownShare (l : Launch) (hl9 : l.stackTraces = false) (dC : Nat → ClassId) (dI : Nat → Nat → Nat) (z : XZ) (h0 h1 h2 h3 h4 h5 h6 h7 h8 h9 : Nat) (sz : Nat) (kc0 kc1 : ClassId) : Met l yL_knownShare (.codeWith yL_knownShare cL_knownShare 3 (some .int) [(0, 8, 11, 96)] :: wsL_law) ({ frames := 9, cells := 1, slots := 6, locals := 142 }) (va_Pc [.ref h0, .ref h1] (PC (dC, dI) [(h0, .inr (6, [.ref h2, .ref h3, .ref h4])), (h1, .inl (kc0, 1, .inr (.inr (.inr (.inl (fun _ => 0)))))), (h2, .inr (2, [.ref h5, .ref h6, .ref h7, .ref h8])), (h3, .inr (5, [.ref h2, .int 0])), (h4, .inr (4, [.ref h2, .ref h9, .int 0])), (h5, .inr (0, [.int 0, .ref z.1, .int 0])), (h6, .inr (0, [.int 0, .ref z.1, .int 0])), (h7, .inr (0, [.int 0, .ref z.1, .int 0])), (h8, .inr (0, [.int 0, .ref z.1, .int 0])), (h9, .inl (kc1, 8, .inl (fun _ => 0)))] [(kc0, .double), (kc1, .int)] sz z)) (va_Qi (fun (r : Int32) (_ : Unit) => r = 1) (fun (_ : Unit) (t : State) => PQ (dC, dI) [(h1, .inl (kc0, 1, .inr (.inr (.inr (.inl (fun _ => 0))))))] [(kc0, .double)] (va_A [(h0, .inr (6, [.ref h2, .ref h3, .ref h4])), (h1, .inl (kc0, 1, .inr (.inr (.inr (.inl (fun _ => 0)))))), (h2, .inr (2, [.ref h5, .ref h6, .ref h7, .ref h8])), (h3, .inr (5, [.ref h2, .int 0])), (h4, .inr (4, [.ref h2, .ref h9, .int 0])), (h5, .inr (0, [.int 0, .ref z.1, .int 0])), (h6, .inr (0, [.int 0, .ref z.1, .int 0])), (h7, .inr (0, [.int 0, .ref z.1, .int 0])), (h8, .inr (0, [.int 0, .ref z.1, .int 0])), (h9, .inl (kc1, 8, .inl (fun _ => 0)))] sz) t) (va_A [(h0, .inr (6, [.ref h2, .ref h3, .ref h4])), (h1, .inl (kc0, 1, .inr (.inr (.inr (.inl (fun _ => 0)))))), (h2, .inr (2, [.ref h5, .ref h6, .ref h7, .ref h8])), (h3, .inr (5, [.ref h2, .int 0])), (h4, .inr (4, [.ref h2, .ref h9, .int 0])), (h5, .inr (0, [.int 0, .ref z.1, .int 0])), (h6, .inr (0, [.int 0, .ref z.1, .int 0])), (h7, .inr (0, [.int 0, .ref z.1, .int 0])), (h8, .inr (0, [.int 0, .ref z.1, .int 0])), (h9, .inl (kc1, 8, .inl (fun _ => 0)))] sz)) 1 6 (va_A [(h0, .inr (6, [.ref h2, .ref h3, .ref h4])), (h1, .inl (kc0, 1, .inr (.inr (.inr (.inl (fun _ => 0)))))), (h2, .inr (2, [.ref h5, .ref h6, .ref h7, .ref h8])), (h3, .inr (5, [.ref h2, .int 0])), (h4, .inr (4, [.ref h2, .ref h9, .int 0])), (h5, .inr (0, [.int 0, .ref z.1, .int 0])), (h6, .inr (0, [.int 0, .ref z.1, .int 0])), (h7, .inr (0, [.int 0, .ref z.1, .int 0])), (h8, .inr (0, [.int 0, .ref z.1, .int 0])), (h9, .inl (kc1, 8, .inl (fun _ => 0)))] sz) := by
  refine va_MetW (cc := cL_knownShare) (maxL := 3) (ret := (some .int)) (hh := [(0, 8, 11, 96)]) (by decide) rfl ?_
  intro p e s m args below meth c s₁ B hml hv
  obtain ⟨rfl, hsz, hP, hK, hD0, hX, hT⟩ := hv
  have hx := B.exec
  have hb := B.bytes
  have hr := B.returns
  have hts0 := atoms_spec (ws := .codeWith yL_knownShare cL_knownShare 3 (some .int) [(0, 8, 11, 96)] :: wsL_law) B.pre
  have htab := vx_table (x := yL_knownShare) B (hts0 _ List.mem_cons_self)
  have hts := xTail hts0
  have hown : s.vm.findClass RL = some m.cls := findClass_of_methodNamed B.named
  have hlocks := B.notSynchronized
  subst hsz
  have hD := hD0.self (sz := s.heap.size)
  generalize hAe : va_A [(h0, .inr (6, [.ref h2, .ref h3, .ref h4])), (h1, .inl (kc0, 1, .inr (.inr (.inr (.inl (fun _ => 0)))))), (h2, .inr (2, [.ref h5, .ref h6, .ref h7, .ref h8])), (h3, .inr (5, [.ref h2, .int 0])), (h4, .inr (4, [.ref h2, .ref h9, .int 0])), (h5, .inr (0, [.int 0, .ref z.1, .int 0])), (h6, .inr (0, [.int 0, .ref z.1, .int 0])), (h7, .inr (0, [.int 0, .ref z.1, .int 0])), (h8, .inr (0, [.int 0, .ref z.1, .int 0])), (h9, .inl (kc1, 8, .inl (fun _ => 0)))] s.heap.size = A at hD hX ⊢
  have hA : ∀ q : Nat, s.heap.size ≤ q → A q := fun q h => by rw [← hAe]; exact Or.inr h
  have hS : va_S A s.heap s.heap [] := va_S.rf
  have hl := lv_entry ([.ref h0, .ref h1]) (n := 3) (Nat.le_of_ble_eq_true rfl)
  rw [lg_entry_eq]
  generalize (lg_sl ([.ref h0, .ref h1]) ++ List.replicate (3 - (lg_sl ([.ref h0, .ref h1])).length) Slot.unset).toArray = ls at hl ⊢
  have hl : lv_has ls 3 [(0, .ref h0), (1, .ref h1)] := hl
  refine lv_aload_n hx hb dL_knownShare_0 rfl (lv_at hl 1 rfl) ?_
  refine lv_iconst (v := 0) hx hb dL_knownShare_1 (by decide) ?_
  refine lv_aload_n hx hb dL_knownShare_2 rfl (lv_at hl 0 rfl) ?_
  have hF1 := va_free (wc := [(h0, .inr (6, [.ref h2, .ref h3, .ref h4])), (h2, .inr (2, [.ref h5, .ref h6, .ref h7, .ref h8])), (h3, .inr (5, [.ref h2, .int 0])), (h4, .inr (4, [.ref h2, .ref h9, .int 0])), (h5, .inr (0, [.int 0, .ref z.1, .int 0])), (h6, .inr (0, [.int 0, .ref z.1, .int 0])), (h7, .inr (0, [.int 0, .ref z.1, .int 0])), (h8, .inr (0, [.int 0, .ref z.1, .int 0])), (h9, .inl (kc1, 8, .inl (fun _ => 0)))]) hD hS hA [0, 2, 3, 4, 5, 6, 7, 8, 9] rfl
  refine vx_callf (SX := Unit) (vx_runV (As := []) (rest := [.int 0, .ref h1]) ⟨hx, hb, hml, hown, hts⟩ (k299_knownShare l hl9 dC dI z h0 h2 h3 h4 h5 h6 h7 h8 h9 s.heap.size kc1) (cwV 0 hts (gV q_702 q_703 q_704 q_69 q_701) rfl rfl rfl (by decide +kernel) ⟨Nat.le_of_ble_eq_true rfl, Nat.le_of_ble_eq_true rfl⟩) ⟨pc_blind, va_recv hK hP (ci := 6) (q0 := 0) rfl rfl, fun U hU hW => ⟨rfl, pc_mk hP hD hK hS hX hT [0, 2, 3, 4, 5, 6, 7, 8, 9] [1] rfl rfl rfl rfl hF1 hU hW⟩⟩ rfl rfl hl.1 rfl (lv_room (Nat.le_of_ble_eq_true rfl)) dL_knownShare_3 ⟨(Nat.le_of_ble_eq_true rfl), (Nat.le_of_ble_eq_true rfl)⟩) hS (fun q9 _ h9 => hF1 q9 h9) hF1 (fun q9 _ h9 => hF1 q9 h9) (fun E3 ce3 x3 v3 t3 H3 L3 ht3 hvm3 hw3 hB3 hz3 hk3 hS hc3 hn3 hf3 => ?_) (fun _ _ _ _ _ _ _ hw9 _ _ _ _ => hw9.elim)
  obtain ⟨hP, hD⟩ := pq_rest (wr := [(h1, .inl (kc0, 1, .inr (.inr (.inr (.inl (fun _ => 0))))))]) hP hD [0, 2, 3, 4, 5, 6, 7, 8, 9] [1] rfl rfl (by decide) (by decide) hk3 hF1
  subst hB3
  refine vx_catch (own := RL) (name := "java/lang/ArithmeticException") hown [] ⟨0, 8, 11, 96⟩ [] htab (fun z9 hz9 => absurd hz9 List.not_mem_nil) (by decide) (by decide) (hts _ q_705) (va_Nw.use rfl (hT.2.1.1 ("java/lang/ArithmeticException", "java/lang/ArithmeticException") (by decide))) hc3 hn3 hf3 ?_
  refine lv_astore_n (lv' := [(2, .ref x3), (0, .ref h0), (1, .ref h1)]) hx hb dL_knownShare_11 rfl hl (by decide) rfl (fun ls hl => ?_)
  refine lv_iconst (v := 1) hx hb dL_knownShare_12 (by decide) ?_
  exact W.iret (v := 1) hx hb hr (fun t9 ht9 hW9 => ⟨⟨1, (), rfl, rfl, pq_mk (wc := [(h1, .inl (kc0, 1, .inr (.inr (.inr (.inl (fun _ => 0))))))]) (tc := [(kc0, .double)]) hP hD hK [0] [0] rfl rfl rfl rfl ht9 hW9⟩, hS.F ht9⟩) hS.2.2 dL_knownShare_13
