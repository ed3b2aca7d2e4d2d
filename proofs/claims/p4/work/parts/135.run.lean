set_option maxHeartbeats 4000000 in
set_option maxRecDepth 100000 in
theorem k485_addTest (l : Launch) (hl9 : l.stackTraces = false) (dC : Nat → ClassId) (dI : Nat → Nat → Nat) (z : XZ) (h0 h1 h2 h3 h4 h5 : Nat) (o0 o1 o2 o3 o4 : Nat) (sz : Nat) (kc0 kc1 : ClassId) : Met l yL_addTest (.codeWith yL_addTest cL_addTest 4 (some .int) [(0, 9, 12, 64), (0, 9, 15, 15)] :: wsL_law) ({ frames := 4, cells := 0, slots := 0, locals := 82 }) (va_Pc [.ref h0, .int 0, .ref h1] (PC (dC, dI) [(h0, .inr (6, [.ref h2, .ref o0, .ref h3])), (h1, .inl (kc0, 1, .inr (.inl (vp_updL (fun _ => 0) 0 4)))), (h2, .inr (2, [.ref o1, .ref h4, .ref o2, .ref o3])), (h3, .inr (4, [.ref h2, .ref h5, .int 0])), (h4, .inr (0, [.int 5, .ref o4, .int 5])), (h5, .inl (kc1, 8, .inl (fun _ => 0)))] [(kc0, .long), (kc1, .int)] sz z)) (va_Qi (fun (r : Int32) (_ : Unit) => r = 0) (fun (_ : Unit) (t : State) => PG (dC, dI) [(h0, .inr (6, [.ref h2, .ref o0, .ref h3])), (h1, .inl (kc0, 1, .inr (.inl (vp_updL (fun _ => 0) 0 1)))), (h2, .inr (2, [.ref o1, .ref h4, .ref o2, .ref o3])), (h3, .inr (4, [.ref h2, .ref h5, .int 1])), (h4, .inr (0, [.int 5, .ref o4, .int 5])), (h5, .inl (kc1, 8, .inl (upd (fun _ => 0) 0 0)))] [(kc0, .long), (kc1, .int)] (va_A [(h0, .inr (6, [.ref h2, .ref o0, .ref h3])), (h1, .inl (kc0, 1, .inr (.inl (vp_updL (fun _ => 0) 0 4)))), (h2, .inr (2, [.ref o1, .ref h4, .ref o2, .ref o3])), (h3, .inr (4, [.ref h2, .ref h5, .int 0])), (h4, .inr (0, [.int 5, .ref o4, .int 5])), (h5, .inl (kc1, 8, .inl (fun _ => 0)))] sz) sz 0 t) (va_A [(h0, .inr (6, [.ref h2, .ref o0, .ref h3])), (h1, .inl (kc0, 1, .inr (.inl (vp_updL (fun _ => 0) 0 4)))), (h2, .inr (2, [.ref o1, .ref h4, .ref o2, .ref o3])), (h3, .inr (4, [.ref h2, .ref h5, .int 0])), (h4, .inr (0, [.int 5, .ref o4, .int 5])), (h5, .inl (kc1, 8, .inl (fun _ => 0)))] sz)) 0 0 (va_A [(h0, .inr (6, [.ref h2, .ref o0, .ref h3])), (h1, .inl (kc0, 1, .inr (.inl (vp_updL (fun _ => 0) 0 4)))), (h2, .inr (2, [.ref o1, .ref h4, .ref o2, .ref o3])), (h3, .inr (4, [.ref h2, .ref h5, .int 0])), (h4, .inr (0, [.int 5, .ref o4, .int 5])), (h5, .inl (kc1, 8, .inl (fun _ => 0)))] sz) := by
  refine va_MetW (cc := cL_addTest) (maxL := 4) (ret := (some .int)) (hh := [(0, 9, 12, 64), (0, 9, 15, 15)]) (by decide) rfl ?_
  intro p e s m args below meth c s₁ B hml hv
  obtain ⟨rfl, hsz, hP, hK, hD0, hX, hT⟩ := hv
  have hx := B.exec
  have hb := B.bytes
  have hr := B.returns
  have hts0 := atoms_spec (ws := .codeWith yL_addTest cL_addTest 4 (some .int) [(0, 9, 12, 64), (0, 9, 15, 15)] :: wsL_law) B.pre
  have htab := vx_table (x := yL_addTest) B (hts0 _ List.mem_cons_self)
  have hts := xTail hts0
  have hown : s.vm.findClass RL = some m.cls := findClass_of_methodNamed B.named
  have hlocks := B.notSynchronized
  subst hsz
  have hD := hD0.self (sz := s.heap.size)
  generalize hAe : va_A [(h0, .inr (6, [.ref h2, .ref o0, .ref h3])), (h1, .inl (kc0, 1, .inr (.inl (vp_updL (fun _ => 0) 0 4)))), (h2, .inr (2, [.ref o1, .ref h4, .ref o2, .ref o3])), (h3, .inr (4, [.ref h2, .ref h5, .int 0])), (h4, .inr (0, [.int 5, .ref o4, .int 5])), (h5, .inl (kc1, 8, .inl (fun _ => 0)))] s.heap.size = A at hD hX ⊢
  have hA : ∀ q : Nat, s.heap.size ≤ q → A q := fun q h => by rw [← hAe]; exact Or.inr h
  have hS : va_S A s.heap s.heap [] := va_S.rf
  have hG : s.heap.size + 0 ≤ s.heap.size := Nat.le_refl _
  have hl := lv_entry ([.ref h0, .int 0, .ref h1]) (n := 4) (Nat.le_of_ble_eq_true rfl)
  rw [lg_entry_eq]
  generalize (lg_sl ([.ref h0, .int 0, .ref h1]) ++ List.replicate (4 - (lg_sl ([.ref h0, .int 0, .ref h1])).length) Slot.unset).toArray = ls at hl ⊢
  have hl : lv_has ls 4 [(0, .ref h0), (1, .int 0), (2, .ref h1)] := hl
  refine lv_aload_n hx hb dL_addTest_0 rfl (lv_at hl 2 rfl) ?_
  refine lv_iconst (v := 0) hx hb dL_addTest_1 (by decide) ?_
  refine lv_aload_n hx hb dL_addTest_2 rfl (lv_at hl 0 rfl) ?_
  refine lv_iload_n hx hb dL_addTest_3 rfl (lv_at hl 1 rfl) ?_
  have hF1 := va_free (wc := [(h0, .inr (6, [.ref h2, .ref o0, .ref h3])), (h2, .inr (2, [.ref o1, .ref h4, .ref o2, .ref o3])), (h3, .inr (4, [.ref h2, .ref h5, .int 0])), (h4, .inr (0, [.int 5, .ref o4, .int 5])), (h5, .inl (kc1, 8, .inl (fun _ => 0)))]) hD hS hA [0, 2, 3, 4, 5] rfl
  refine va_calli (va_runV (As := [.int 0]) (rest := [.int 0, .ref h1]) ⟨hx, hb, hml, hown, hts⟩ (k484_addTest l hl9 dC dI z h0 h2 h3 h4 h5 o0 o1 o2 o3 o4 s.heap.size kc1) (cwV 1 hts (gV q_364 q_365 q_366 q_2 q_363) rfl rfl rfl (by decide +kernel) ⟨Nat.le_of_ble_eq_true rfl, Nat.le_of_ble_eq_true rfl⟩) ⟨pc_blind, va_recv hK hP (ci := 6) (q0 := 0) rfl rfl, fun U hU hW => ⟨rfl, pc_mk hP hD hK hS hX hT [0, 2, 3, 4, 5] [1] rfl rfl rfl rfl hF1 hU hW⟩⟩ rfl rfl hl.1 rfl (lv_room (Nat.le_of_ble_eq_true rfl)) dL_addTest_4 ⟨(Nat.le_of_ble_eq_true rfl), (Nat.le_of_ble_eq_true rfl)⟩) hS (fun q9 _ h9 => hF1 q9 h9) hF1 (fun r4 u3 t3 H3 L3 ht3 hvm3 hw3 hB3 hz3 hk3 hS => ?_)
  obtain ⟨hP, hD, hK⟩ := pq_join (wr := [(h1, .inl (kc0, 1, .inr (.inl (vp_updL (fun _ => 0) 0 4))))]) (tr := [(kc0, .long)]) (wz := [(h1, .inl (kc0, 1, .inr (.inl (vp_updL (fun _ => 0) 0 4)))), (h0, .inr (6, [.ref h2, .ref o0, .ref h3])), (h2, .inr (2, [.ref o1, .ref h4, .ref o2, .ref o3])), (h3, .inr (4, [.ref h2, .ref h5, .int 1])), (h4, .inr (0, [.int 5, .ref o4, .int 5])), (h5, .inl (kc1, 8, .inl (upd (fun _ => 0) 0 0)))]) (tz := [(kc0, .long), (kc1, .int)]) hP hD hK [0, 2, 3, 4, 5] [1] [0] rfl rfl (by decide) (by decide) rfl hk3 hF1 hB3.1 ht3 hvm3 rfl rfl
  have hG : s.heap.size + 0 ≤ H3.size := Nat.le_trans hG hz3
  refine W.eq (g2 := F0 m 7 ls [.int 1, .int 0, .ref h1]) (by rw [hw3]) ?_
  refine lv_i2l (v := 1) hx hb dL_addTest_7 (by decide) ?_
  refine va_last hx hb hK hP hD (va_Sre hS) 0 0 rfl rfl (i := 0) (by unfold vp_in; decide) dL_addTest_8 (fun H5 _ hP hD hS' => ?_)
  have hG : s.heap.size + 0 ≤ H5.size := Nat.le_trans hG hS'.1
  have hS := va_Str hS hS'
  have hP : va_P (dC, dI) xCl [(h1, .inl (kc0, 1, .inr (.inl (vp_updL (vp_updL (fun _ => 0) 0 4) 0 1)))), (h0, .inr (6, [.ref h2, .ref o0, .ref h3])), (h2, .inr (2, [.ref o1, .ref h4, .ref o2, .ref o3])), (h3, .inr (4, [.ref h2, .ref h5, .int 1])), (h4, .inr (0, [.int 5, .ref o4, .int 5])), (h5, .inl (kc1, 8, .inl (upd (fun _ => 0) 0 0)))] H5 := hP
  have hD : va_D A [(h1, .inl (kc0, 1, .inr (.inl (vp_updL (vp_updL (fun _ => 0) 0 4) 0 1)))), (h0, .inr (6, [.ref h2, .ref o0, .ref h3])), (h2, .inr (2, [.ref o1, .ref h4, .ref o2, .ref o3])), (h3, .inr (4, [.ref h2, .ref h5, .int 1])), (h4, .inr (0, [.int 5, .ref o4, .int 5])), (h5, .inl (kc1, 8, .inl (upd (fun _ => 0) 0 0)))] := hD
  refine lv_goto (tgt := 18) hx hb dL_addTest_9 (by decide) ?_
  refine lv_iconst (v := 0) hx hb dL_addTest_18 (by decide) ?_
  have hu6 : (vp_updL (vp_updL (fun _ => 0) 0 4) 0 1) = (vp_updL (fun _ => 0) 0 1) := by funext j; by_cases g0 : j = 0; (subst g0; rfl); simp only [vp_updL, g0, if_false]
  rw [hu6] at hP hD
  have hP : va_P (dC, dI) xCl [(h1, .inl (kc0, 1, .inr (.inl (vp_updL (fun _ => 0) 0 1)))), (h0, .inr (6, [.ref h2, .ref o0, .ref h3])), (h2, .inr (2, [.ref o1, .ref h4, .ref o2, .ref o3])), (h3, .inr (4, [.ref h2, .ref h5, .int 1])), (h4, .inr (0, [.int 5, .ref o4, .int 5])), (h5, .inl (kc1, 8, .inl (upd (fun _ => 0) 0 0)))] H5 := hP
  have hD : va_D A [(h1, .inl (kc0, 1, .inr (.inl (vp_updL (fun _ => 0) 0 1)))), (h0, .inr (6, [.ref h2, .ref o0, .ref h3])), (h2, .inr (2, [.ref o1, .ref h4, .ref o2, .ref o3])), (h3, .inr (4, [.ref h2, .ref h5, .int 1])), (h4, .inr (0, [.int 5, .ref o4, .int 5])), (h5, .inl (kc1, 8, .inl (upd (fun _ => 0) 0 0)))] := hD
  exact W.iret (v := 0) hx hb hr (fun t9 ht9 hW9 => ⟨⟨0, (), rfl, rfl, ⟨pq_mk (wc := [(h0, .inr (6, [.ref h2, .ref o0, .ref h3])), (h1, .inl (kc0, 1, .inr (.inl (vp_updL (fun _ => 0) 0 1)))), (h2, .inr (2, [.ref o1, .ref h4, .ref o2, .ref o3])), (h3, .inr (4, [.ref h2, .ref h5, .int 1])), (h4, .inr (0, [.int 5, .ref o4, .int 5])), (h5, .inl (kc1, 8, .inl (upd (fun _ => 0) 0 0)))]) (tc := [(kc0, .long), (kc1, .int)]) hP hD hK [1, 0, 2, 3, 4, 5] [0, 1] rfl rfl rfl rfl ht9 hW9, by rw [ht9]; exact Nat.le_trans (Nat.add_le_add_left (Nat.le_of_ble_eq_true rfl) _) hG⟩⟩, hS.F ht9⟩) hS.2.2 dL_addTest_19

set_option maxHeartbeats 4000000 in
set_option maxRecDepth 100000 in
theorem k486_sources (l : Launch) (hl9 : l.stackTraces = false) (dC : Nat → ClassId) (dI : Nat → Nat → Nat) (z : XZ) (h0 h1 h2 h3 h4 h5 h6 h7 : Nat) (o0 o1 o2 : Nat) (sz : Nat) (kc0 : ClassId) : Met l yX9_sources (.code yX9_sources cX9_sources 4 (some .int) :: wsL_law) ({ frames := 3, cells := 1, slots := 4, locals := 57 }) (va_Pc [.ref h0] (PC (dC, dI) [(h0, .inr (8, [.int 0, .ref h1, .ref o0, .ref o1, .ref o2, .int 0])), (h1, .inr (0, [.int 5, .ref h2, .int 5])), (h2, .inl (kc0, 10, .inr (.inr (.inr (.inr (va_up (va_up (va_up (va_up (va_up (fun _ => none) 0 (some h3)) 1 (some h4)) 2 (some h5)) 3 (some h6)) 4 (some h7))))))), (h3, .inr (7, [.int 105, .int 120, .int 0, .int (-1), .int 0, .int (-1)])), (h4, .inr (7, [.int 105, .int 120, .int 0, .int (-1), .int 0, .int (-1)])), (h5, .inr (7, [.int 105, .int 120, .int 0, .int (-1), .int 0, .int (-1)])), (h6, .inr (7, [.int 105, .int 120, .int 0, .int (-1), .int 0, .int (-1)])), (h7, .inr (7, [.int 105, .int 120, .int 0, .int (-1), .int 0, .int (-1)]))] [(kc0, .object "java/lang/Object")] sz z)) (va_Qi (fun (r : Int32) (_ : Unit) => r = 5) (fun (_ : Unit) (t : State) => PG (dC, dI) [(h0, .inr (8, [.int 0, .ref h1, .ref o0, .ref o1, .ref o2, .int 0])), (h1, .inr (0, [.int 5, .ref h2, .int 5])), (h2, .inl (kc0, 10, .inr (.inr (.inr (.inr (va_up (va_up (va_up (va_up (va_up (fun _ => none) 0 (some h3)) 1 (some h4)) 2 (some h5)) 3 (some h6)) 4 (some h7))))))), (h3, .inr (7, [.int 105, .int 120, .int 0, .int (-1), .int 0, .int (-1)])), (h4, .inr (7, [.int 105, .int 120, .int 0, .int (-1), .int 0, .int (-1)])), (h5, .inr (7, [.int 105, .int 120, .int 0, .int (-1), .int 0, .int (-1)])), (h6, .inr (7, [.int 105, .int 120, .int 0, .int (-1), .int 0, .int (-1)])), (h7, .inr (7, [.int 105, .int 120, .int 0, .int (-1), .int 0, .int (-1)]))] [(kc0, .object "java/lang/Object")] (va_A [(h0, .inr (8, [.int 0, .ref h1, .ref o0, .ref o1, .ref o2, .int 0])), (h1, .inr (0, [.int 5, .ref h2, .int 5])), (h2, .inl (kc0, 10, .inr (.inr (.inr (.inr (va_up (va_up (va_up (va_up (va_up (fun _ => none) 0 (some h3)) 1 (some h4)) 2 (some h5)) 3 (some h6)) 4 (some h7))))))), (h3, .inr (7, [.int 105, .int 120, .int 0, .int (-1), .int 0, .int (-1)])), (h4, .inr (7, [.int 105, .int 120, .int 0, .int (-1), .int 0, .int (-1)])), (h5, .inr (7, [.int 105, .int 120, .int 0, .int (-1), .int 0, .int (-1)])), (h6, .inr (7, [.int 105, .int 120, .int 0, .int (-1), .int 0, .int (-1)])), (h7, .inr (7, [.int 105, .int 120, .int 0, .int (-1), .int 0, .int (-1)]))] sz) sz 1 t) (va_A [(h0, .inr (8, [.int 0, .ref h1, .ref o0, .ref o1, .ref o2, .int 0])), (h1, .inr (0, [.int 5, .ref h2, .int 5])), (h2, .inl (kc0, 10, .inr (.inr (.inr (.inr (va_up (va_up (va_up (va_up (va_up (fun _ => none) 0 (some h3)) 1 (some h4)) 2 (some h5)) 3 (some h6)) 4 (some h7))))))), (h3, .inr (7, [.int 105, .int 120, .int 0, .int (-1), .int 0, .int (-1)])), (h4, .inr (7, [.int 105, .int 120, .int 0, .int (-1), .int 0, .int (-1)])), (h5, .inr (7, [.int 105, .int 120, .int 0, .int (-1), .int 0, .int (-1)])), (h6, .inr (7, [.int 105, .int 120, .int 0, .int (-1), .int 0, .int (-1)])), (h7, .inr (7, [.int 105, .int 120, .int 0, .int (-1), .int 0, .int (-1)]))] sz)) 1 4 (va_A [(h0, .inr (8, [.int 0, .ref h1, .ref o0, .ref o1, .ref o2, .int 0])), (h1, .inr (0, [.int 5, .ref h2, .int 5])), (h2, .inl (kc0, 10, .inr (.inr (.inr (.inr (va_up (va_up (va_up (va_up (va_up (fun _ => none) 0 (some h3)) 1 (some h4)) 2 (some h5)) 3 (some h6)) 4 (some h7))))))), (h3, .inr (7, [.int 105, .int 120, .int 0, .int (-1), .int 0, .int (-1)])), (h4, .inr (7, [.int 105, .int 120, .int 0, .int (-1), .int 0, .int (-1)])), (h5, .inr (7, [.int 105, .int 120, .int 0, .int (-1), .int 0, .int (-1)])), (h6, .inr (7, [.int 105, .int 120, .int 0, .int (-1), .int 0, .int (-1)])), (h7, .inr (7, [.int 105, .int 120, .int 0, .int (-1), .int 0, .int (-1)]))] sz) := by
  refine Met.ofW (cc := cX9_sources) (maxL := 4) (ret := (some .int)) (by decide) rfl ?_
  intro p e s m args below meth c s₁ B hml hv
  obtain ⟨rfl, hsz, hP, hK, hD0, hX, hT⟩ := hv
  have hx := B.exec
  have hb := B.bytes
  have hr := B.returns
  have hts0 := atoms_spec (ws := .code yX9_sources cX9_sources 4 (some .int) :: wsL_law) B.pre
  have hts := xTail hts0
  have hown : s.vm.findClass RX9 = some m.cls := findClass_of_methodNamed B.named
  have hlocks := B.notSynchronized
  subst hsz
  have hD := hD0.self (sz := s.heap.size)
  generalize hAe : va_A [(h0, .inr (8, [.int 0, .ref h1, .ref o0, .ref o1, .ref o2, .int 0])), (h1, .inr (0, [.int 5, .ref h2, .int 5])), (h2, .inl (kc0, 10, .inr (.inr (.inr (.inr (va_up (va_up (va_up (va_up (va_up (fun _ => none) 0 (some h3)) 1 (some h4)) 2 (some h5)) 3 (some h6)) 4 (some h7))))))), (h3, .inr (7, [.int 105, .int 120, .int 0, .int (-1), .int 0, .int (-1)])), (h4, .inr (7, [.int 105, .int 120, .int 0, .int (-1), .int 0, .int (-1)])), (h5, .inr (7, [.int 105, .int 120, .int 0, .int (-1), .int 0, .int (-1)])), (h6, .inr (7, [.int 105, .int 120, .int 0, .int (-1), .int 0, .int (-1)])), (h7, .inr (7, [.int 105, .int 120, .int 0, .int (-1), .int 0, .int (-1)]))] s.heap.size = A at hD hX ⊢
  have hA : ∀ q : Nat, s.heap.size ≤ q → A q := fun q h => by rw [← hAe]; exact Or.inr h
  have hS : va_S A s.heap s.heap [] := va_S.rf
  have hG : s.heap.size + 0 ≤ s.heap.size := Nat.le_refl _
  have hl := lv_entry ([.ref h0]) (n := 4) (Nat.le_of_ble_eq_true rfl)
  rw [lg_entry_eq]
  generalize (lg_sl ([.ref h0]) ++ List.replicate (4 - (lg_sl ([.ref h0])).length) Slot.unset).toArray = ls at hl ⊢
  have hl : lv_has ls 4 [(0, .ref h0)] := hl
  refine lv_iconst (v := 0) hx hb dX9_sources_0 (by decide) ?_
  refine lv_istore_n (lv' := [(1, .int 0), (0, .ref h0)]) hx hb dX9_sources_1 rfl hl (by decide) rfl (fun ls hl => ?_)
  refine lv_aload_n hx hb dX9_sources_2 rfl (lv_at hl 1 rfl) ?_
  refine va_get (D := (dC, dI)) (ci := 8) (v := .ref h1) (C := RX9) (T := TX9) (N := 6) hx hb hts in_X9 hown hK hP 0 rfl rfl 1 (by decide) (hts _ q_64) (fun _ h9 => h9) rfl dX9_sources_3 ?_
  have hF1 := va_free (wc := [(h1, .inr (0, [.int 5, .ref h2, .int 5]))]) hD hS hA [1] rfl
  refine va_callr (va_runV (As := []) (rest := []) ⟨hx, hb, hml, hown, hts⟩ (k440_iterator l hl9 dC dI z h1 h2 s.heap.size) (cwV 0 hts (gV q_256 q_257 q_258 q_12 q_255) rfl rfl rfl (by decide +kernel) ⟨Nat.le_of_ble_eq_true rfl, Nat.le_of_ble_eq_true rfl⟩) ⟨pc_blind, va_recv hK hP (ci := 0) (q0 := 1) rfl rfl, fun U hU hW => ⟨rfl, pc_mk hP hD hK hS hX hT [1] [] rfl rfl rfl rfl hF1 hU hW⟩⟩ rfl rfl hl.1 rfl (lv_room (Nat.le_of_ble_eq_true rfl)) dX9_sources_6 ⟨(Nat.le_of_ble_eq_true rfl), (Nat.le_of_ble_eq_true rfl)⟩) hS (fun q9 _ h9 => hF1 q9 h9) hF1 (fun u3 r4 t3 H3 L3 ht3 hvm3 hw3 hB3 hz3 hk3 hS => ?_)
  obtain ⟨a5, hr3, hB3⟩ := hB3
  obtain ⟨hP, hD, hK⟩ := pq_join (wr := [(h0, .inr (8, [.int 0, .ref h1, .ref o0, .ref o1, .ref o2, .int 0])), (h2, .inl (kc0, 10, .inr (.inr (.inr (.inr (va_up (va_up (va_up (va_up (va_up (fun _ => none) 0 (some h3)) 1 (some h4)) 2 (some h5)) 3 (some h6)) 4 (some h7))))))), (h3, .inr (7, [.int 105, .int 120, .int 0, .int (-1), .int 0, .int (-1)])), (h4, .inr (7, [.int 105, .int 120, .int 0, .int (-1), .int 0, .int (-1)])), (h5, .inr (7, [.int 105, .int 120, .int 0, .int (-1), .int 0, .int (-1)])), (h6, .inr (7, [.int 105, .int 120, .int 0, .int (-1), .int 0, .int (-1)])), (h7, .inr (7, [.int 105, .int 120, .int 0, .int (-1), .int 0, .int (-1)]))]) (tr := [(kc0, .object "java/lang/Object")]) (wz := [(h0, .inr (8, [.int 0, .ref h1, .ref o0, .ref o1, .ref o2, .int 0])), (h2, .inl (kc0, 10, .inr (.inr (.inr (.inr (va_up (va_up (va_up (va_up (va_up (fun _ => none) 0 (some h3)) 1 (some h4)) 2 (some h5)) 3 (some h6)) 4 (some h7))))))), (h3, .inr (7, [.int 105, .int 120, .int 0, .int (-1), .int 0, .int (-1)])), (h4, .inr (7, [.int 105, .int 120, .int 0, .int (-1), .int 0, .int (-1)])), (h5, .inr (7, [.int 105, .int 120, .int 0, .int (-1), .int 0, .int (-1)])), (h6, .inr (7, [.int 105, .int 120, .int 0, .int (-1), .int 0, .int (-1)])), (h7, .inr (7, [.int 105, .int 120, .int 0, .int (-1), .int 0, .int (-1)])), (h1, .inr (0, [.int 5, .ref h2, .int 5])), (a5, .inr (1, [.int 0, .int (-1), .int 5, .ref h1]))]) (tz := [(kc0, .object "java/lang/Object")]) hP hD hK [1] [0, 2, 3, 4, 5, 6, 7] [0] rfl rfl (by decide) (by decide) rfl hk3 hF1 hB3.1 ht3 hvm3 rfl rfl
  have hG : s.heap.size + 1 ≤ H3.size := va_gr (g := 0) (g1 := 1) hG (by rw [← ht3]; exact hB3.2)
  refine W.eq (g2 := F0 m 9 ls [.ref a5]) (by rw [hr3]) ?_
  refine W.widen (k := 1) (n := 4) (by decide) (by decide) ?_
  refine lv_astore_n (lv' := [(2, .ref a5), (1, .int 0), (0, .ref h0)]) hx hb dX9_sources_9 rfl hl (by decide) rfl (fun ls hl => ?_)
  refine lv_aload_n hx hb dX9_sources_10 rfl (lv_at hl 0 rfl) ?_
  have hF6 := va_free (wc := [(a5, .inr (1, [.int 0, .int (-1), .int 5, .ref h1])), (h1, .inr (0, [.int 5, .ref h2, .int 5]))]) hD hS hA [8, 7] rfl
  refine va_callFi (va_runF (As := []) (rest := []) (hK.1 1 _ rfl).2 ⟨hx, hb, hml, hown, hts⟩ (k441_hasNext l hl9 dC dI z a5 h1 h2 H3.size) (va_cwF 0 hts (gF q_261 q_262 q_263 q_246 q_260) rfl rfl rfl hT.2.2.2.2.2.2.1 (by decide +kernel) ⟨Nat.le_of_ble_eq_true rfl, Nat.le_of_ble_eq_true rfl⟩) ⟨pc_blind, va_recv hK hP (ci := 1) (q0 := 8) rfl rfl, fun U hU hW => ⟨rfl, pc_mk hP hD hK hS hX hT [8, 7] [] rfl rfl rfl rfl hF6 hU hW⟩⟩ rfl rfl hl.1 rfl (lv_room (Nat.le_of_ble_eq_true rfl)) dX9_sources_11 ⟨(Nat.le_of_ble_eq_true rfl), (Nat.le_of_ble_eq_true rfl)⟩) hS (fun q9 _ h9 => hF6 q9 h9) hF6 (fun r9 u8 t8 H8 L8 ht8 hvm8 hw8 hB8 hz8 hk8 hS => ?_)
  obtain ⟨hP, hD, hK⟩ := pq_join (wr := [(h0, .inr (8, [.int 0, .ref h1, .ref o0, .ref o1, .ref o2, .int 0])), (h2, .inl (kc0, 10, .inr (.inr (.inr (.inr (va_up (va_up (va_up (va_up (va_up (fun _ => none) 0 (some h3)) 1 (some h4)) 2 (some h5)) 3 (some h6)) 4 (some h7))))))), (h3, .inr (7, [.int 105, .int 120, .int 0, .int (-1), .int 0, .int (-1)])), (h4, .inr (7, [.int 105, .int 120, .int 0, .int (-1), .int 0, .int (-1)])), (h5, .inr (7, [.int 105, .int 120, .int 0, .int (-1), .int 0, .int (-1)])), (h6, .inr (7, [.int 105, .int 120, .int 0, .int (-1), .int 0, .int (-1)])), (h7, .inr (7, [.int 105, .int 120, .int 0, .int (-1), .int 0, .int (-1)]))]) (tr := [(kc0, .object "java/lang/Object")]) (wz := [(h0, .inr (8, [.int 0, .ref h1, .ref o0, .ref o1, .ref o2, .int 0])), (h2, .inl (kc0, 10, .inr (.inr (.inr (.inr (va_up (va_up (va_up (va_up (va_up (fun _ => none) 0 (some h3)) 1 (some h4)) 2 (some h5)) 3 (some h6)) 4 (some h7))))))), (h3, .inr (7, [.int 105, .int 120, .int 0, .int (-1), .int 0, .int (-1)])), (h4, .inr (7, [.int 105, .int 120, .int 0, .int (-1), .int 0, .int (-1)])), (h5, .inr (7, [.int 105, .int 120, .int 0, .int (-1), .int 0, .int (-1)])), (h6, .inr (7, [.int 105, .int 120, .int 0, .int (-1), .int 0, .int (-1)])), (h7, .inr (7, [.int 105, .int 120, .int 0, .int (-1), .int 0, .int (-1)])), (a5, .inr (1, [.int 0, .int (-1), .int 5, .ref h1])), (h1, .inr (0, [.int 5, .ref h2, .int 5]))]) (tz := [(kc0, .object "java/lang/Object")]) hP hD hK [8, 7] [0, 1, 2, 3, 4, 5, 6] [0] rfl rfl (by decide) (by decide) rfl hk8 hF6 hB8.1 ht8 hvm8 rfl rfl
  have hG : s.heap.size + 1 ≤ H8.size := Nat.le_trans hG hz8
  refine W.eq (g2 := F0 m 16 ls [.int 1]) (by rw [hw8]) ?_
  refine lv_if_eq (tgt := 47) hx hb dX9_sources_16 (by decide) (fun cz => absurd cz (by decide)) (fun _ => ?_)
  refine lv_aload_n hx hb dX9_sources_19 rfl (lv_at hl 0 rfl) ?_
  have hF10 := va_free (wc := [(a5, .inr (1, [.int 0, .int (-1), .int 5, .ref h1])), (h1, .inr (0, [.int 5, .ref h2, .int 5])), (h2, .inl (kc0, 10, .inr (.inr (.inr (.inr (va_up (va_up (va_up (va_up (va_up (fun _ => none) 0 (some h3)) 1 (some h4)) 2 (some h5)) 3 (some h6)) 4 (some h7)))))))]) hD hS hA [7, 8, 1] rfl
  refine va_callFr (va_runF (As := []) (rest := []) (hK.1 1 _ rfl).2 ⟨hx, hb, hml, hown, hts⟩ (k443_next l hl9 dC dI z a5 h1 h2 h3 h4 h5 h6 h7 H8.size kc0) (va_cwF 0 hts (gF q_308 q_309 q_310 q_246 q_307) rfl rfl rfl hT.2.2.2.2.2.2.2.1 (by decide +kernel) ⟨Nat.le_of_ble_eq_true rfl, Nat.le_of_ble_eq_true rfl⟩) ⟨pc_blind, va_recv hK hP (ci := 1) (q0 := 7) rfl rfl, fun U hU hW => ⟨rfl, pc_mk hP hD hK hS hX hT [7, 8, 1] [0] rfl rfl rfl rfl hF10 hU hW⟩⟩ rfl rfl hl.1 rfl (lv_room (Nat.le_of_ble_eq_true rfl)) dX9_sources_20 ⟨(Nat.le_of_ble_eq_true rfl), (Nat.le_of_ble_eq_true rfl)⟩) hS (fun q9 _ h9 => hF10 q9 h9) hF10 (fun u12 r13 t12 H12 L12 ht12 hvm12 hw12 hB12 hz12 hk12 hS => ?_)
  obtain ⟨hr12, hB12⟩ := hB12
  obtain ⟨hP, hD, hK⟩ := pq_join (wr := [(h0, .inr (8, [.int 0, .ref h1, .ref o0, .ref o1, .ref o2, .int 0])), (h3, .inr (7, [.int 105, .int 120, .int 0, .int (-1), .int 0, .int (-1)])), (h4, .inr (7, [.int 105, .int 120, .int 0, .int (-1), .int 0, .int (-1)])), (h5, .inr (7, [.int 105, .int 120, .int 0, .int (-1), .int 0, .int (-1)])), (h6, .inr (7, [.int 105, .int 120, .int 0, .int (-1), .int 0, .int (-1)])), (h7, .inr (7, [.int 105, .int 120, .int 0, .int (-1), .int 0, .int (-1)]))]) (tr := []) (wz := [(h0, .inr (8, [.int 0, .ref h1, .ref o0, .ref o1, .ref o2, .int 0])), (h3, .inr (7, [.int 105, .int 120, .int 0, .int (-1), .int 0, .int (-1)])), (h4, .inr (7, [.int 105, .int 120, .int 0, .int (-1), .int 0, .int (-1)])), (h5, .inr (7, [.int 105, .int 120, .int 0, .int (-1), .int 0, .int (-1)])), (h6, .inr (7, [.int 105, .int 120, .int 0, .int (-1), .int 0, .int (-1)])), (h7, .inr (7, [.int 105, .int 120, .int 0, .int (-1), .int 0, .int (-1)])), (a5, .inr (1, [.int 1, .int 0, .int 5, .ref h1])), (h1, .inr (0, [.int 5, .ref h2, .int 5])), (h2, .inl (kc0, 10, .inr (.inr (.inr (.inr (va_up (va_up (va_up (va_up (va_up (fun _ => none) 0 (some h3)) 1 (some h4)) 2 (some h5)) 3 (some h6)) 4 (some h7)))))))]) (tz := [(kc0, .object "java/lang/Object")]) hP hD hK [7, 8, 1] [0, 2, 3, 4, 5, 6] [] rfl rfl (by decide) (by decide) rfl hk12 hF10 hB12.1 ht12 hvm12 rfl rfl
  have hG : s.heap.size + 1 ≤ H12.size := Nat.le_trans hG hz12
  refine W.eq (g2 := F0 m 25 ls [.ref h3]) (by rw [hr12]) ?_
  refine va_castE (nm := RX8) hx hb hown (hts _ q_273) (va_recv hK hP (ci := 7) (q0 := 1) rfl rfl) dX9_sources_25 ?_
  refine lv_astore_n (lv' := [(3, .ref h3), (2, .ref a5), (1, .int 0), (0, .ref h0)]) hx hb dX9_sources_28 rfl hl (by decide) rfl (fun ls hl => ?_)
  refine lv_iload_n hx hb dX9_sources_29 rfl (lv_at hl 2 rfl) ?_
  refine lv_aload_n hx hb dX9_sources_30 rfl (lv_at hl 0 rfl) ?_
  have hF14 := va_free (wc := [(h3, .inr (7, [.int 105, .int 120, .int 0, .int (-1), .int 0, .int (-1)]))]) hD hS hA [1] rfl
  refine va_calli (va_runV (As := []) (rest := [.int 0]) ⟨hx, hb, hml, hown, hts⟩ (k121_isSource l hl9 dC dI z h3 H12.size) (cwV 0 hts (gV q_344 q_345 q_346 q_275 q_343) rfl rfl rfl (by decide +kernel) ⟨Nat.le_of_ble_eq_true rfl, Nat.le_of_ble_eq_true rfl⟩) ⟨pc_blind, va_recv hK hP (ci := 7) (q0 := 1) rfl rfl, fun U hU hW => ⟨rfl, pc_mk hP hD hK hS hX hT [1] [] rfl rfl rfl rfl hF14 hU hW⟩⟩ rfl rfl hl.1 rfl (lv_room (Nat.le_of_ble_eq_true rfl)) dX9_sources_31 ⟨(Nat.le_of_ble_eq_true rfl), (Nat.le_of_ble_eq_true rfl)⟩) hS (fun q9 _ h9 => hF14 q9 h9) hF14 (fun r17 u16 t16 H16 L16 ht16 hvm16 hw16 hB16 hz16 hk16 hS => ?_)
  obtain ⟨hP, hD, hK⟩ := pq_join (wr := [(h0, .inr (8, [.int 0, .ref h1, .ref o0, .ref o1, .ref o2, .int 0])), (h4, .inr (7, [.int 105, .int 120, .int 0, .int (-1), .int 0, .int (-1)])), (h5, .inr (7, [.int 105, .int 120, .int 0, .int (-1), .int 0, .int (-1)])), (h6, .inr (7, [.int 105, .int 120, .int 0, .int (-1), .int 0, .int (-1)])), (h7, .inr (7, [.int 105, .int 120, .int 0, .int (-1), .int 0, .int (-1)])), (a5, .inr (1, [.int 1, .int 0, .int 5, .ref h1])), (h1, .inr (0, [.int 5, .ref h2, .int 5])), (h2, .inl (kc0, 10, .inr (.inr (.inr (.inr (va_up (va_up (va_up (va_up (va_up (fun _ => none) 0 (some h3)) 1 (some h4)) 2 (some h5)) 3 (some h6)) 4 (some h7)))))))]) (tr := [(kc0, .object "java/lang/Object")]) (wz := [(h0, .inr (8, [.int 0, .ref h1, .ref o0, .ref o1, .ref o2, .int 0])), (h4, .inr (7, [.int 105, .int 120, .int 0, .int (-1), .int 0, .int (-1)])), (h5, .inr (7, [.int 105, .int 120, .int 0, .int (-1), .int 0, .int (-1)])), (h6, .inr (7, [.int 105, .int 120, .int 0, .int (-1), .int 0, .int (-1)])), (h7, .inr (7, [.int 105, .int 120, .int 0, .int (-1), .int 0, .int (-1)])), (a5, .inr (1, [.int 1, .int 0, .int 5, .ref h1])), (h1, .inr (0, [.int 5, .ref h2, .int 5])), (h2, .inl (kc0, 10, .inr (.inr (.inr (.inr (va_up (va_up (va_up (va_up (va_up (fun _ => none) 0 (some h3)) 1 (some h4)) 2 (some h5)) 3 (some h6)) 4 (some h7))))))), (h3, .inr (7, [.int 105, .int 120, .int 0, .int (-1), .int 0, .int (-1)]))]) (tz := [(kc0, .object "java/lang/Object")]) hP hD hK [1] [0, 2, 3, 4, 5, 6, 7, 8] [0] rfl rfl (by decide) (by decide) rfl hk16 hF14 hB16.1 ht16 hvm16 rfl rfl
  have hG : s.heap.size + 1 ≤ H16.size := Nat.le_trans hG hz16
  refine W.eq (g2 := F0 m 34 ls [.int 1, .int 0]) (by rw [hw16]) ?_
  refine lv_if_eq (tgt := 41) hx hb dX9_sources_34 (by decide) (fun cz => absurd cz (by decide)) (fun _ => ?_)
  refine lv_iconst (v := 1) hx hb dX9_sources_37 (by decide) ?_
  refine lv_goto (tgt := 42) hx hb dX9_sources_38 (by decide) ?_
  refine lv_iadd hx hb dX9_sources_42 ?_
  refine lv_topi (fun y18 ey18 => ?_)
  obtain rfl : y18 = 1 := ey18.trans (by decide)
  refine lv_istore_n (lv' := [(1, .int 1), (3, .ref h3), (2, .ref a5), (0, .ref h0)]) hx hb dX9_sources_43 rfl hl (by decide) rfl (fun ls hl => ?_)
  refine lv_goto (tgt := 10) hx hb dX9_sources_44 (by decide) ?_
  refine lv_aload_n hx hb dX9_sources_10 rfl (lv_at hl 2 rfl) ?_
  have hF19 := va_free (wc := [(a5, .inr (1, [.int 1, .int 0, .int 5, .ref h1])), (h1, .inr (0, [.int 5, .ref h2, .int 5]))]) hD hS hA [5, 6] rfl
  refine va_callFi (va_runF (As := []) (rest := []) (hK.1 1 _ rfl).2 ⟨hx, hb, hml, hown, hts⟩ (k444_hasNext l hl9 dC dI z a5 h1 h2 H16.size) (va_cwF 0 hts (gF q_261 q_262 q_263 q_246 q_260) rfl rfl rfl hT.2.2.2.2.2.2.1 (by decide +kernel) ⟨Nat.le_of_ble_eq_true rfl, Nat.le_of_ble_eq_true rfl⟩) ⟨pc_blind, va_recv hK hP (ci := 1) (q0 := 5) rfl rfl, fun U hU hW => ⟨rfl, pc_mk hP hD hK hS hX hT [5, 6] [] rfl rfl rfl rfl hF19 hU hW⟩⟩ rfl rfl hl.1 rfl (lv_room (Nat.le_of_ble_eq_true rfl)) dX9_sources_11 ⟨(Nat.le_of_ble_eq_true rfl), (Nat.le_of_ble_eq_true rfl)⟩) hS (fun q9 _ h9 => hF19 q9 h9) hF19 (fun r22 u21 t21 H21 L21 ht21 hvm21 hw21 hB21 hz21 hk21 hS => ?_)
  obtain ⟨hP, hD, hK⟩ := pq_join (wr := [(h0, .inr (8, [.int 0, .ref h1, .ref o0, .ref o1, .ref o2, .int 0])), (h4, .inr (7, [.int 105, .int 120, .int 0, .int (-1), .int 0, .int (-1)])), (h5, .inr (7, [.int 105, .int 120, .int 0, .int (-1), .int 0, .int (-1)])), (h6, .inr (7, [.int 105, .int 120, .int 0, .int (-1), .int 0, .int (-1)])), (h7, .inr (7, [.int 105, .int 120, .int 0, .int (-1), .int 0, .int (-1)])), (h2, .inl (kc0, 10, .inr (.inr (.inr (.inr (va_up (va_up (va_up (va_up (va_up (fun _ => none) 0 (some h3)) 1 (some h4)) 2 (some h5)) 3 (some h6)) 4 (some h7))))))), (h3, .inr (7, [.int 105, .int 120, .int 0, .int (-1), .int 0, .int (-1)]))]) (tr := [(kc0, .object "java/lang/Object")]) (wz := [(h0, .inr (8, [.int 0, .ref h1, .ref o0, .ref o1, .ref o2, .int 0])), (h4, .inr (7, [.int 105, .int 120, .int 0, .int (-1), .int 0, .int (-1)])), (h5, .inr (7, [.int 105, .int 120, .int 0, .int (-1), .int 0, .int (-1)])), (h6, .inr (7, [.int 105, .int 120, .int 0, .int (-1), .int 0, .int (-1)])), (h7, .inr (7, [.int 105, .int 120, .int 0, .int (-1), .int 0, .int (-1)])), (h2, .inl (kc0, 10, .inr (.inr (.inr (.inr (va_up (va_up (va_up (va_up (va_up (fun _ => none) 0 (some h3)) 1 (some h4)) 2 (some h5)) 3 (some h6)) 4 (some h7))))))), (h3, .inr (7, [.int 105, .int 120, .int 0, .int (-1), .int 0, .int (-1)])), (a5, .inr (1, [.int 1, .int 0, .int 5, .ref h1])), (h1, .inr (0, [.int 5, .ref h2, .int 5]))]) (tz := [(kc0, .object "java/lang/Object")]) hP hD hK [5, 6] [0, 1, 2, 3, 4, 7, 8] [0] rfl rfl (by decide) (by decide) rfl hk21 hF19 hB21.1 ht21 hvm21 rfl rfl
  have hG : s.heap.size + 1 ≤ H21.size := Nat.le_trans hG hz21
  refine W.eq (g2 := F0 m 16 ls [.int 1]) (by rw [hw21]) ?_
  refine lv_if_eq (tgt := 47) hx hb dX9_sources_16 (by decide) (fun cz => absurd cz (by decide)) (fun _ => ?_)
  refine lv_aload_n hx hb dX9_sources_19 rfl (lv_at hl 2 rfl) ?_
  have hF23 := va_free (wc := [(a5, .inr (1, [.int 1, .int 0, .int 5, .ref h1])), (h1, .inr (0, [.int 5, .ref h2, .int 5])), (h2, .inl (kc0, 10, .inr (.inr (.inr (.inr (va_up (va_up (va_up (va_up (va_up (fun _ => none) 0 (some h3)) 1 (some h4)) 2 (some h5)) 3 (some h6)) 4 (some h7)))))))]) hD hS hA [7, 8, 5] rfl
  refine va_callFr (va_runF (As := []) (rest := []) (hK.1 1 _ rfl).2 ⟨hx, hb, hml, hown, hts⟩ (k446_next l hl9 dC dI z a5 h1 h2 h3 h4 h5 h6 h7 H21.size kc0) (va_cwF 0 hts (gF q_308 q_309 q_310 q_246 q_307) rfl rfl rfl hT.2.2.2.2.2.2.2.1 (by decide +kernel) ⟨Nat.le_of_ble_eq_true rfl, Nat.le_of_ble_eq_true rfl⟩) ⟨pc_blind, va_recv hK hP (ci := 1) (q0 := 7) rfl rfl, fun U hU hW => ⟨rfl, pc_mk hP hD hK hS hX hT [7, 8, 5] [0] rfl rfl rfl rfl hF23 hU hW⟩⟩ rfl rfl hl.1 rfl (lv_room (Nat.le_of_ble_eq_true rfl)) dX9_sources_20 ⟨(Nat.le_of_ble_eq_true rfl), (Nat.le_of_ble_eq_true rfl)⟩) hS (fun q9 _ h9 => hF23 q9 h9) hF23 (fun u25 r26 t25 H25 L25 ht25 hvm25 hw25 hB25 hz25 hk25 hS => ?_)
  obtain ⟨hr25, hB25⟩ := hB25
  obtain ⟨hP, hD, hK⟩ := pq_join (wr := [(h0, .inr (8, [.int 0, .ref h1, .ref o0, .ref o1, .ref o2, .int 0])), (h4, .inr (7, [.int 105, .int 120, .int 0, .int (-1), .int 0, .int (-1)])), (h5, .inr (7, [.int 105, .int 120, .int 0, .int (-1), .int 0, .int (-1)])), (h6, .inr (7, [.int 105, .int 120, .int 0, .int (-1), .int 0, .int (-1)])), (h7, .inr (7, [.int 105, .int 120, .int 0, .int (-1), .int 0, .int (-1)])), (h3, .inr (7, [.int 105, .int 120, .int 0, .int (-1), .int 0, .int (-1)]))]) (tr := []) (wz := [(h0, .inr (8, [.int 0, .ref h1, .ref o0, .ref o1, .ref o2, .int 0])), (h4, .inr (7, [.int 105, .int 120, .int 0, .int (-1), .int 0, .int (-1)])), (h5, .inr (7, [.int 105, .int 120, .int 0, .int (-1), .int 0, .int (-1)])), (h6, .inr (7, [.int 105, .int 120, .int 0, .int (-1), .int 0, .int (-1)])), (h7, .inr (7, [.int 105, .int 120, .int 0, .int (-1), .int 0, .int (-1)])), (h3, .inr (7, [.int 105, .int 120, .int 0, .int (-1), .int 0, .int (-1)])), (a5, .inr (1, [.int 2, .int 1, .int 5, .ref h1])), (h1, .inr (0, [.int 5, .ref h2, .int 5])), (h2, .inl (kc0, 10, .inr (.inr (.inr (.inr (va_up (va_up (va_up (va_up (va_up (fun _ => none) 0 (some h3)) 1 (some h4)) 2 (some h5)) 3 (some h6)) 4 (some h7)))))))]) (tz := [(kc0, .object "java/lang/Object")]) hP hD hK [7, 8, 5] [0, 1, 2, 3, 4, 6] [] rfl rfl (by decide) (by decide) rfl hk25 hF23 hB25.1 ht25 hvm25 rfl rfl
  have hG : s.heap.size + 1 ≤ H25.size := Nat.le_trans hG hz25
  refine W.eq (g2 := F0 m 25 ls [.ref h4]) (by rw [hr25]) ?_
  refine va_castE (nm := RX8) hx hb hown (hts _ q_273) (va_recv hK hP (ci := 7) (q0 := 1) rfl rfl) dX9_sources_25 ?_
  refine lv_astore_n (lv' := [(3, .ref h4), (1, .int 1), (2, .ref a5), (0, .ref h0)]) hx hb dX9_sources_28 rfl hl (by decide) rfl (fun ls hl => ?_)
  refine lv_iload_n hx hb dX9_sources_29 rfl (lv_at hl 1 rfl) ?_
  refine lv_aload_n hx hb dX9_sources_30 rfl (lv_at hl 0 rfl) ?_
  have hF27 := va_free (wc := [(h4, .inr (7, [.int 105, .int 120, .int 0, .int (-1), .int 0, .int (-1)]))]) hD hS hA [1] rfl
  refine va_calli (va_runV (As := []) (rest := [.int 1]) ⟨hx, hb, hml, hown, hts⟩ (k121_isSource l hl9 dC dI z h4 H25.size) (cwV 0 hts (gV q_344 q_345 q_346 q_275 q_343) rfl rfl rfl (by decide +kernel) ⟨Nat.le_of_ble_eq_true rfl, Nat.le_of_ble_eq_true rfl⟩) ⟨pc_blind, va_recv hK hP (ci := 7) (q0 := 1) rfl rfl, fun U hU hW => ⟨rfl, pc_mk hP hD hK hS hX hT [1] [] rfl rfl rfl rfl hF27 hU hW⟩⟩ rfl rfl hl.1 rfl (lv_room (Nat.le_of_ble_eq_true rfl)) dX9_sources_31 ⟨(Nat.le_of_ble_eq_true rfl), (Nat.le_of_ble_eq_true rfl)⟩) hS (fun q9 _ h9 => hF27 q9 h9) hF27 (fun r30 u29 t29 H29 L29 ht29 hvm29 hw29 hB29 hz29 hk29 hS => ?_)
  obtain ⟨hP, hD, hK⟩ := pq_join (wr := [(h0, .inr (8, [.int 0, .ref h1, .ref o0, .ref o1, .ref o2, .int 0])), (h5, .inr (7, [.int 105, .int 120, .int 0, .int (-1), .int 0, .int (-1)])), (h6, .inr (7, [.int 105, .int 120, .int 0, .int (-1), .int 0, .int (-1)])), (h7, .inr (7, [.int 105, .int 120, .int 0, .int (-1), .int 0, .int (-1)])), (h3, .inr (7, [.int 105, .int 120, .int 0, .int (-1), .int 0, .int (-1)])), (a5, .inr (1, [.int 2, .int 1, .int 5, .ref h1])), (h1, .inr (0, [.int 5, .ref h2, .int 5])), (h2, .inl (kc0, 10, .inr (.inr (.inr (.inr (va_up (va_up (va_up (va_up (va_up (fun _ => none) 0 (some h3)) 1 (some h4)) 2 (some h5)) 3 (some h6)) 4 (some h7)))))))]) (tr := [(kc0, .object "java/lang/Object")]) (wz := [(h0, .inr (8, [.int 0, .ref h1, .ref o0, .ref o1, .ref o2, .int 0])), (h5, .inr (7, [.int 105, .int 120, .int 0, .int (-1), .int 0, .int (-1)])), (h6, .inr (7, [.int 105, .int 120, .int 0, .int (-1), .int 0, .int (-1)])), (h7, .inr (7, [.int 105, .int 120, .int 0, .int (-1), .int 0, .int (-1)])), (h3, .inr (7, [.int 105, .int 120, .int 0, .int (-1), .int 0, .int (-1)])), (a5, .inr (1, [.int 2, .int 1, .int 5, .ref h1])), (h1, .inr (0, [.int 5, .ref h2, .int 5])), (h2, .inl (kc0, 10, .inr (.inr (.inr (.inr (va_up (va_up (va_up (va_up (va_up (fun _ => none) 0 (some h3)) 1 (some h4)) 2 (some h5)) 3 (some h6)) 4 (some h7))))))), (h4, .inr (7, [.int 105, .int 120, .int 0, .int (-1), .int 0, .int (-1)]))]) (tz := [(kc0, .object "java/lang/Object")]) hP hD hK [1] [0, 2, 3, 4, 5, 6, 7, 8] [0] rfl rfl (by decide) (by decide) rfl hk29 hF27 hB29.1 ht29 hvm29 rfl rfl
  have hG : s.heap.size + 1 ≤ H29.size := Nat.le_trans hG hz29
  refine W.eq (g2 := F0 m 34 ls [.int 1, .int 1]) (by rw [hw29]) ?_
  refine lv_if_eq (tgt := 41) hx hb dX9_sources_34 (by decide) (fun cz => absurd cz (by decide)) (fun _ => ?_)
  refine lv_iconst (v := 1) hx hb dX9_sources_37 (by decide) ?_
  refine lv_goto (tgt := 42) hx hb dX9_sources_38 (by decide) ?_
  refine lv_iadd hx hb dX9_sources_42 ?_
  refine lv_topi (fun y31 ey31 => ?_)
  obtain rfl : y31 = 2 := ey31.trans (by decide)
  refine lv_istore_n (lv' := [(1, .int 2), (3, .ref h4), (2, .ref a5), (0, .ref h0)]) hx hb dX9_sources_43 rfl hl (by decide) rfl (fun ls hl => ?_)
  refine lv_goto (tgt := 10) hx hb dX9_sources_44 (by decide) ?_
  refine lv_aload_n hx hb dX9_sources_10 rfl (lv_at hl 2 rfl) ?_
  have hF32 := va_free (wc := [(a5, .inr (1, [.int 2, .int 1, .int 5, .ref h1])), (h1, .inr (0, [.int 5, .ref h2, .int 5]))]) hD hS hA [5, 6] rfl
  refine va_callFi (va_runF (As := []) (rest := []) (hK.1 1 _ rfl).2 ⟨hx, hb, hml, hown, hts⟩ (k447_hasNext l hl9 dC dI z a5 h1 h2 H29.size) (va_cwF 0 hts (gF q_261 q_262 q_263 q_246 q_260) rfl rfl rfl hT.2.2.2.2.2.2.1 (by decide +kernel) ⟨Nat.le_of_ble_eq_true rfl, Nat.le_of_ble_eq_true rfl⟩) ⟨pc_blind, va_recv hK hP (ci := 1) (q0 := 5) rfl rfl, fun U hU hW => ⟨rfl, pc_mk hP hD hK hS hX hT [5, 6] [] rfl rfl rfl rfl hF32 hU hW⟩⟩ rfl rfl hl.1 rfl (lv_room (Nat.le_of_ble_eq_true rfl)) dX9_sources_11 ⟨(Nat.le_of_ble_eq_true rfl), (Nat.le_of_ble_eq_true rfl)⟩) hS (fun q9 _ h9 => hF32 q9 h9) hF32 (fun r35 u34 t34 H34 L34 ht34 hvm34 hw34 hB34 hz34 hk34 hS => ?_)
  obtain ⟨hP, hD, hK⟩ := pq_join (wr := [(h0, .inr (8, [.int 0, .ref h1, .ref o0, .ref o1, .ref o2, .int 0])), (h5, .inr (7, [.int 105, .int 120, .int 0, .int (-1), .int 0, .int (-1)])), (h6, .inr (7, [.int 105, .int 120, .int 0, .int (-1), .int 0, .int (-1)])), (h7, .inr (7, [.int 105, .int 120, .int 0, .int (-1), .int 0, .int (-1)])), (h3, .inr (7, [.int 105, .int 120, .int 0, .int (-1), .int 0, .int (-1)])), (h2, .inl (kc0, 10, .inr (.inr (.inr (.inr (va_up (va_up (va_up (va_up (va_up (fun _ => none) 0 (some h3)) 1 (some h4)) 2 (some h5)) 3 (some h6)) 4 (some h7))))))), (h4, .inr (7, [.int 105, .int 120, .int 0, .int (-1), .int 0, .int (-1)]))]) (tr := [(kc0, .object "java/lang/Object")]) (wz := [(h0, .inr (8, [.int 0, .ref h1, .ref o0, .ref o1, .ref o2, .int 0])), (h5, .inr (7, [.int 105, .int 120, .int 0, .int (-1), .int 0, .int (-1)])), (h6, .inr (7, [.int 105, .int 120, .int 0, .int (-1), .int 0, .int (-1)])), (h7, .inr (7, [.int 105, .int 120, .int 0, .int (-1), .int 0, .int (-1)])), (h3, .inr (7, [.int 105, .int 120, .int 0, .int (-1), .int 0, .int (-1)])), (h2, .inl (kc0, 10, .inr (.inr (.inr (.inr (va_up (va_up (va_up (va_up (va_up (fun _ => none) 0 (some h3)) 1 (some h4)) 2 (some h5)) 3 (some h6)) 4 (some h7))))))), (h4, .inr (7, [.int 105, .int 120, .int 0, .int (-1), .int 0, .int (-1)])), (a5, .inr (1, [.int 2, .int 1, .int 5, .ref h1])), (h1, .inr (0, [.int 5, .ref h2, .int 5]))]) (tz := [(kc0, .object "java/lang/Object")]) hP hD hK [5, 6] [0, 1, 2, 3, 4, 7, 8] [0] rfl rfl (by decide) (by decide) rfl hk34 hF32 hB34.1 ht34 hvm34 rfl rfl
  have hG : s.heap.size + 1 ≤ H34.size := Nat.le_trans hG hz34
  refine W.eq (g2 := F0 m 16 ls [.int 1]) (by rw [hw34]) ?_
  refine lv_if_eq (tgt := 47) hx hb dX9_sources_16 (by decide) (fun cz => absurd cz (by decide)) (fun _ => ?_)
  refine lv_aload_n hx hb dX9_sources_19 rfl (lv_at hl 2 rfl) ?_
  have hF36 := va_free (wc := [(a5, .inr (1, [.int 2, .int 1, .int 5, .ref h1])), (h1, .inr (0, [.int 5, .ref h2, .int 5])), (h2, .inl (kc0, 10, .inr (.inr (.inr (.inr (va_up (va_up (va_up (va_up (va_up (fun _ => none) 0 (some h3)) 1 (some h4)) 2 (some h5)) 3 (some h6)) 4 (some h7)))))))]) hD hS hA [7, 8, 5] rfl
  refine va_callFr (va_runF (As := []) (rest := []) (hK.1 1 _ rfl).2 ⟨hx, hb, hml, hown, hts⟩ (k449_next l hl9 dC dI z a5 h1 h2 h3 h4 h5 h6 h7 H34.size kc0) (va_cwF 0 hts (gF q_308 q_309 q_310 q_246 q_307) rfl rfl rfl hT.2.2.2.2.2.2.2.1 (by decide +kernel) ⟨Nat.le_of_ble_eq_true rfl, Nat.le_of_ble_eq_true rfl⟩) ⟨pc_blind, va_recv hK hP (ci := 1) (q0 := 7) rfl rfl, fun U hU hW => ⟨rfl, pc_mk hP hD hK hS hX hT [7, 8, 5] [0] rfl rfl rfl rfl hF36 hU hW⟩⟩ rfl rfl hl.1 rfl (lv_room (Nat.le_of_ble_eq_true rfl)) dX9_sources_20 ⟨(Nat.le_of_ble_eq_true rfl), (Nat.le_of_ble_eq_true rfl)⟩) hS (fun q9 _ h9 => hF36 q9 h9) hF36 (fun u38 r39 t38 H38 L38 ht38 hvm38 hw38 hB38 hz38 hk38 hS => ?_)
  obtain ⟨hr38, hB38⟩ := hB38
  obtain ⟨hP, hD, hK⟩ := pq_join (wr := [(h0, .inr (8, [.int 0, .ref h1, .ref o0, .ref o1, .ref o2, .int 0])), (h5, .inr (7, [.int 105, .int 120, .int 0, .int (-1), .int 0, .int (-1)])), (h6, .inr (7, [.int 105, .int 120, .int 0, .int (-1), .int 0, .int (-1)])), (h7, .inr (7, [.int 105, .int 120, .int 0, .int (-1), .int 0, .int (-1)])), (h3, .inr (7, [.int 105, .int 120, .int 0, .int (-1), .int 0, .int (-1)])), (h4, .inr (7, [.int 105, .int 120, .int 0, .int (-1), .int 0, .int (-1)]))]) (tr := []) (wz := [(h0, .inr (8, [.int 0, .ref h1, .ref o0, .ref o1, .ref o2, .int 0])), (h5, .inr (7, [.int 105, .int 120, .int 0, .int (-1), .int 0, .int (-1)])), (h6, .inr (7, [.int 105, .int 120, .int 0, .int (-1), .int 0, .int (-1)])), (h7, .inr (7, [.int 105, .int 120, .int 0, .int (-1), .int 0, .int (-1)])), (h3, .inr (7, [.int 105, .int 120, .int 0, .int (-1), .int 0, .int (-1)])), (h4, .inr (7, [.int 105, .int 120, .int 0, .int (-1), .int 0, .int (-1)])), (a5, .inr (1, [.int 3, .int 2, .int 5, .ref h1])), (h1, .inr (0, [.int 5, .ref h2, .int 5])), (h2, .inl (kc0, 10, .inr (.inr (.inr (.inr (va_up (va_up (va_up (va_up (va_up (fun _ => none) 0 (some h3)) 1 (some h4)) 2 (some h5)) 3 (some h6)) 4 (some h7)))))))]) (tz := [(kc0, .object "java/lang/Object")]) hP hD hK [7, 8, 5] [0, 1, 2, 3, 4, 6] [] rfl rfl (by decide) (by decide) rfl hk38 hF36 hB38.1 ht38 hvm38 rfl rfl
  have hG : s.heap.size + 1 ≤ H38.size := Nat.le_trans hG hz38
  refine W.eq (g2 := F0 m 25 ls [.ref h5]) (by rw [hr38]) ?_
  refine va_castE (nm := RX8) hx hb hown (hts _ q_273) (va_recv hK hP (ci := 7) (q0 := 1) rfl rfl) dX9_sources_25 ?_
  refine lv_astore_n (lv' := [(3, .ref h5), (1, .int 2), (2, .ref a5), (0, .ref h0)]) hx hb dX9_sources_28 rfl hl (by decide) rfl (fun ls hl => ?_)
  refine lv_iload_n hx hb dX9_sources_29 rfl (lv_at hl 1 rfl) ?_
  refine lv_aload_n hx hb dX9_sources_30 rfl (lv_at hl 0 rfl) ?_
  have hF40 := va_free (wc := [(h5, .inr (7, [.int 105, .int 120, .int 0, .int (-1), .int 0, .int (-1)]))]) hD hS hA [1] rfl
  refine va_calli (va_runV (As := []) (rest := [.int 2]) ⟨hx, hb, hml, hown, hts⟩ (k121_isSource l hl9 dC dI z h5 H38.size) (cwV 0 hts (gV q_344 q_345 q_346 q_275 q_343) rfl rfl rfl (by decide +kernel) ⟨Nat.le_of_ble_eq_true rfl, Nat.le_of_ble_eq_true rfl⟩) ⟨pc_blind, va_recv hK hP (ci := 7) (q0 := 1) rfl rfl, fun U hU hW => ⟨rfl, pc_mk hP hD hK hS hX hT [1] [] rfl rfl rfl rfl hF40 hU hW⟩⟩ rfl rfl hl.1 rfl (lv_room (Nat.le_of_ble_eq_true rfl)) dX9_sources_31 ⟨(Nat.le_of_ble_eq_true rfl), (Nat.le_of_ble_eq_true rfl)⟩) hS (fun q9 _ h9 => hF40 q9 h9) hF40 (fun r43 u42 t42 H42 L42 ht42 hvm42 hw42 hB42 hz42 hk42 hS => ?_)
  obtain ⟨hP, hD, hK⟩ := pq_join (wr := [(h0, .inr (8, [.int 0, .ref h1, .ref o0, .ref o1, .ref o2, .int 0])), (h6, .inr (7, [.int 105, .int 120, .int 0, .int (-1), .int 0, .int (-1)])), (h7, .inr (7, [.int 105, .int 120, .int 0, .int (-1), .int 0, .int (-1)])), (h3, .inr (7, [.int 105, .int 120, .int 0, .int (-1), .int 0, .int (-1)])), (h4, .inr (7, [.int 105, .int 120, .int 0, .int (-1), .int 0, .int (-1)])), (a5, .inr (1, [.int 3, .int 2, .int 5, .ref h1])), (h1, .inr (0, [.int 5, .ref h2, .int 5])), (h2, .inl (kc0, 10, .inr (.inr (.inr (.inr (va_up (va_up (va_up (va_up (va_up (fun _ => none) 0 (some h3)) 1 (some h4)) 2 (some h5)) 3 (some h6)) 4 (some h7)))))))]) (tr := [(kc0, .object "java/lang/Object")]) (wz := [(h0, .inr (8, [.int 0, .ref h1, .ref o0, .ref o1, .ref o2, .int 0])), (h6, .inr (7, [.int 105, .int 120, .int 0, .int (-1), .int 0, .int (-1)])), (h7, .inr (7, [.int 105, .int 120, .int 0, .int (-1), .int 0, .int (-1)])), (h3, .inr (7, [.int 105, .int 120, .int 0, .int (-1), .int 0, .int (-1)])), (h4, .inr (7, [.int 105, .int 120, .int 0, .int (-1), .int 0, .int (-1)])), (a5, .inr (1, [.int 3, .int 2, .int 5, .ref h1])), (h1, .inr (0, [.int 5, .ref h2, .int 5])), (h2, .inl (kc0, 10, .inr (.inr (.inr (.inr (va_up (va_up (va_up (va_up (va_up (fun _ => none) 0 (some h3)) 1 (some h4)) 2 (some h5)) 3 (some h6)) 4 (some h7))))))), (h5, .inr (7, [.int 105, .int 120, .int 0, .int (-1), .int 0, .int (-1)]))]) (tz := [(kc0, .object "java/lang/Object")]) hP hD hK [1] [0, 2, 3, 4, 5, 6, 7, 8] [0] rfl rfl (by decide) (by decide) rfl hk42 hF40 hB42.1 ht42 hvm42 rfl rfl
  have hG : s.heap.size + 1 ≤ H42.size := Nat.le_trans hG hz42
  refine W.eq (g2 := F0 m 34 ls [.int 1, .int 2]) (by rw [hw42]) ?_
  refine lv_if_eq (tgt := 41) hx hb dX9_sources_34 (by decide) (fun cz => absurd cz (by decide)) (fun _ => ?_)
  refine lv_iconst (v := 1) hx hb dX9_sources_37 (by decide) ?_
  refine lv_goto (tgt := 42) hx hb dX9_sources_38 (by decide) ?_
  refine lv_iadd hx hb dX9_sources_42 ?_
  refine lv_topi (fun y44 ey44 => ?_)
  obtain rfl : y44 = 3 := ey44.trans (by decide)
  refine lv_istore_n (lv' := [(1, .int 3), (3, .ref h5), (2, .ref a5), (0, .ref h0)]) hx hb dX9_sources_43 rfl hl (by decide) rfl (fun ls hl => ?_)
  refine lv_goto (tgt := 10) hx hb dX9_sources_44 (by decide) ?_
  refine lv_aload_n hx hb dX9_sources_10 rfl (lv_at hl 2 rfl) ?_
  have hF45 := va_free (wc := [(a5, .inr (1, [.int 3, .int 2, .int 5, .ref h1])), (h1, .inr (0, [.int 5, .ref h2, .int 5]))]) hD hS hA [5, 6] rfl
  refine va_callFi (va_runF (As := []) (rest := []) (hK.1 1 _ rfl).2 ⟨hx, hb, hml, hown, hts⟩ (k450_hasNext l hl9 dC dI z a5 h1 h2 H42.size) (va_cwF 0 hts (gF q_261 q_262 q_263 q_246 q_260) rfl rfl rfl hT.2.2.2.2.2.2.1 (by decide +kernel) ⟨Nat.le_of_ble_eq_true rfl, Nat.le_of_ble_eq_true rfl⟩) ⟨pc_blind, va_recv hK hP (ci := 1) (q0 := 5) rfl rfl, fun U hU hW => ⟨rfl, pc_mk hP hD hK hS hX hT [5, 6] [] rfl rfl rfl rfl hF45 hU hW⟩⟩ rfl rfl hl.1 rfl (lv_room (Nat.le_of_ble_eq_true rfl)) dX9_sources_11 ⟨(Nat.le_of_ble_eq_true rfl), (Nat.le_of_ble_eq_true rfl)⟩) hS (fun q9 _ h9 => hF45 q9 h9) hF45 (fun r48 u47 t47 H47 L47 ht47 hvm47 hw47 hB47 hz47 hk47 hS => ?_)
  obtain ⟨hP, hD, hK⟩ := pq_join (wr := [(h0, .inr (8, [.int 0, .ref h1, .ref o0, .ref o1, .ref o2, .int 0])), (h6, .inr (7, [.int 105, .int 120, .int 0, .int (-1), .int 0, .int (-1)])), (h7, .inr (7, [.int 105, .int 120, .int 0, .int (-1), .int 0, .int (-1)])), (h3, .inr (7, [.int 105, .int 120, .int 0, .int (-1), .int 0, .int (-1)])), (h4, .inr (7, [.int 105, .int 120, .int 0, .int (-1), .int 0, .int (-1)])), (h2, .inl (kc0, 10, .inr (.inr (.inr (.inr (va_up (va_up (va_up (va_up (va_up (fun _ => none) 0 (some h3)) 1 (some h4)) 2 (some h5)) 3 (some h6)) 4 (some h7))))))), (h5, .inr (7, [.int 105, .int 120, .int 0, .int (-1), .int 0, .int (-1)]))]) (tr := [(kc0, .object "java/lang/Object")]) (wz := [(h0, .inr (8, [.int 0, .ref h1, .ref o0, .ref o1, .ref o2, .int 0])), (h6, .inr (7, [.int 105, .int 120, .int 0, .int (-1), .int 0, .int (-1)])), (h7, .inr (7, [.int 105, .int 120, .int 0, .int (-1), .int 0, .int (-1)])), (h3, .inr (7, [.int 105, .int 120, .int 0, .int (-1), .int 0, .int (-1)])), (h4, .inr (7, [.int 105, .int 120, .int 0, .int (-1), .int 0, .int (-1)])), (h2, .inl (kc0, 10, .inr (.inr (.inr (.inr (va_up (va_up (va_up (va_up (va_up (fun _ => none) 0 (some h3)) 1 (some h4)) 2 (some h5)) 3 (some h6)) 4 (some h7))))))), (h5, .inr (7, [.int 105, .int 120, .int 0, .int (-1), .int 0, .int (-1)])), (a5, .inr (1, [.int 3, .int 2, .int 5, .ref h1])), (h1, .inr (0, [.int 5, .ref h2, .int 5]))]) (tz := [(kc0, .object "java/lang/Object")]) hP hD hK [5, 6] [0, 1, 2, 3, 4, 7, 8] [0] rfl rfl (by decide) (by decide) rfl hk47 hF45 hB47.1 ht47 hvm47 rfl rfl
  have hG : s.heap.size + 1 ≤ H47.size := Nat.le_trans hG hz47
  refine W.eq (g2 := F0 m 16 ls [.int 1]) (by rw [hw47]) ?_
  refine lv_if_eq (tgt := 47) hx hb dX9_sources_16 (by decide) (fun cz => absurd cz (by decide)) (fun _ => ?_)
  refine lv_aload_n hx hb dX9_sources_19 rfl (lv_at hl 2 rfl) ?_
  have hF49 := va_free (wc := [(a5, .inr (1, [.int 3, .int 2, .int 5, .ref h1])), (h1, .inr (0, [.int 5, .ref h2, .int 5])), (h2, .inl (kc0, 10, .inr (.inr (.inr (.inr (va_up (va_up (va_up (va_up (va_up (fun _ => none) 0 (some h3)) 1 (some h4)) 2 (some h5)) 3 (some h6)) 4 (some h7)))))))]) hD hS hA [7, 8, 5] rfl
  refine va_callFr (va_runF (As := []) (rest := []) (hK.1 1 _ rfl).2 ⟨hx, hb, hml, hown, hts⟩ (k452_next l hl9 dC dI z a5 h1 h2 h3 h4 h5 h6 h7 H47.size kc0) (va_cwF 0 hts (gF q_308 q_309 q_310 q_246 q_307) rfl rfl rfl hT.2.2.2.2.2.2.2.1 (by decide +kernel) ⟨Nat.le_of_ble_eq_true rfl, Nat.le_of_ble_eq_true rfl⟩) ⟨pc_blind, va_recv hK hP (ci := 1) (q0 := 7) rfl rfl, fun U hU hW => ⟨rfl, pc_mk hP hD hK hS hX hT [7, 8, 5] [0] rfl rfl rfl rfl hF49 hU hW⟩⟩ rfl rfl hl.1 rfl (lv_room (Nat.le_of_ble_eq_true rfl)) dX9_sources_20 ⟨(Nat.le_of_ble_eq_true rfl), (Nat.le_of_ble_eq_true rfl)⟩) hS (fun q9 _ h9 => hF49 q9 h9) hF49 (fun u51 r52 t51 H51 L51 ht51 hvm51 hw51 hB51 hz51 hk51 hS => ?_)
  obtain ⟨hr51, hB51⟩ := hB51
  obtain ⟨hP, hD, hK⟩ := pq_join (wr := [(h0, .inr (8, [.int 0, .ref h1, .ref o0, .ref o1, .ref o2, .int 0])), (h6, .inr (7, [.int 105, .int 120, .int 0, .int (-1), .int 0, .int (-1)])), (h7, .inr (7, [.int 105, .int 120, .int 0, .int (-1), .int 0, .int (-1)])), (h3, .inr (7, [.int 105, .int 120, .int 0, .int (-1), .int 0, .int (-1)])), (h4, .inr (7, [.int 105, .int 120, .int 0, .int (-1), .int 0, .int (-1)])), (h5, .inr (7, [.int 105, .int 120, .int 0, .int (-1), .int 0, .int (-1)]))]) (tr := []) (wz := [(h0, .inr (8, [.int 0, .ref h1, .ref o0, .ref o1, .ref o2, .int 0])), (h6, .inr (7, [.int 105, .int 120, .int 0, .int (-1), .int 0, .int (-1)])), (h7, .inr (7, [.int 105, .int 120, .int 0, .int (-1), .int 0, .int (-1)])), (h3, .inr (7, [.int 105, .int 120, .int 0, .int (-1), .int 0, .int (-1)])), (h4, .inr (7, [.int 105, .int 120, .int 0, .int (-1), .int 0, .int (-1)])), (h5, .inr (7, [.int 105, .int 120, .int 0, .int (-1), .int 0, .int (-1)])), (a5, .inr (1, [.int 4, .int 3, .int 5, .ref h1])), (h1, .inr (0, [.int 5, .ref h2, .int 5])), (h2, .inl (kc0, 10, .inr (.inr (.inr (.inr (va_up (va_up (va_up (va_up (va_up (fun _ => none) 0 (some h3)) 1 (some h4)) 2 (some h5)) 3 (some h6)) 4 (some h7)))))))]) (tz := [(kc0, .object "java/lang/Object")]) hP hD hK [7, 8, 5] [0, 1, 2, 3, 4, 6] [] rfl rfl (by decide) (by decide) rfl hk51 hF49 hB51.1 ht51 hvm51 rfl rfl
  have hG : s.heap.size + 1 ≤ H51.size := Nat.le_trans hG hz51
  refine W.eq (g2 := F0 m 25 ls [.ref h6]) (by rw [hr51]) ?_
  refine va_castE (nm := RX8) hx hb hown (hts _ q_273) (va_recv hK hP (ci := 7) (q0 := 1) rfl rfl) dX9_sources_25 ?_
  refine lv_astore_n (lv' := [(3, .ref h6), (1, .int 3), (2, .ref a5), (0, .ref h0)]) hx hb dX9_sources_28 rfl hl (by decide) rfl (fun ls hl => ?_)
  refine lv_iload_n hx hb dX9_sources_29 rfl (lv_at hl 1 rfl) ?_
  refine lv_aload_n hx hb dX9_sources_30 rfl (lv_at hl 0 rfl) ?_
  have hF53 := va_free (wc := [(h6, .inr (7, [.int 105, .int 120, .int 0, .int (-1), .int 0, .int (-1)]))]) hD hS hA [1] rfl
  refine va_calli (va_runV (As := []) (rest := [.int 3]) ⟨hx, hb, hml, hown, hts⟩ (k121_isSource l hl9 dC dI z h6 H51.size) (cwV 0 hts (gV q_344 q_345 q_346 q_275 q_343) rfl rfl rfl (by decide +kernel) ⟨Nat.le_of_ble_eq_true rfl, Nat.le_of_ble_eq_true rfl⟩) ⟨pc_blind, va_recv hK hP (ci := 7) (q0 := 1) rfl rfl, fun U hU hW => ⟨rfl, pc_mk hP hD hK hS hX hT [1] [] rfl rfl rfl rfl hF53 hU hW⟩⟩ rfl rfl hl.1 rfl (lv_room (Nat.le_of_ble_eq_true rfl)) dX9_sources_31 ⟨(Nat.le_of_ble_eq_true rfl), (Nat.le_of_ble_eq_true rfl)⟩) hS (fun q9 _ h9 => hF53 q9 h9) hF53 (fun r56 u55 t55 H55 L55 ht55 hvm55 hw55 hB55 hz55 hk55 hS => ?_)
  obtain ⟨hP, hD, hK⟩ := pq_join (wr := [(h0, .inr (8, [.int 0, .ref h1, .ref o0, .ref o1, .ref o2, .int 0])), (h7, .inr (7, [.int 105, .int 120, .int 0, .int (-1), .int 0, .int (-1)])), (h3, .inr (7, [.int 105, .int 120, .int 0, .int (-1), .int 0, .int (-1)])), (h4, .inr (7, [.int 105, .int 120, .int 0, .int (-1), .int 0, .int (-1)])), (h5, .inr (7, [.int 105, .int 120, .int 0, .int (-1), .int 0, .int (-1)])), (a5, .inr (1, [.int 4, .int 3, .int 5, .ref h1])), (h1, .inr (0, [.int 5, .ref h2, .int 5])), (h2, .inl (kc0, 10, .inr (.inr (.inr (.inr (va_up (va_up (va_up (va_up (va_up (fun _ => none) 0 (some h3)) 1 (some h4)) 2 (some h5)) 3 (some h6)) 4 (some h7)))))))]) (tr := [(kc0, .object "java/lang/Object")]) (wz := [(h0, .inr (8, [.int 0, .ref h1, .ref o0, .ref o1, .ref o2, .int 0])), (h7, .inr (7, [.int 105, .int 120, .int 0, .int (-1), .int 0, .int (-1)])), (h3, .inr (7, [.int 105, .int 120, .int 0, .int (-1), .int 0, .int (-1)])), (h4, .inr (7, [.int 105, .int 120, .int 0, .int (-1), .int 0, .int (-1)])), (h5, .inr (7, [.int 105, .int 120, .int 0, .int (-1), .int 0, .int (-1)])), (a5, .inr (1, [.int 4, .int 3, .int 5, .ref h1])), (h1, .inr (0, [.int 5, .ref h2, .int 5])), (h2, .inl (kc0, 10, .inr (.inr (.inr (.inr (va_up (va_up (va_up (va_up (va_up (fun _ => none) 0 (some h3)) 1 (some h4)) 2 (some h5)) 3 (some h6)) 4 (some h7))))))), (h6, .inr (7, [.int 105, .int 120, .int 0, .int (-1), .int 0, .int (-1)]))]) (tz := [(kc0, .object "java/lang/Object")]) hP hD hK [1] [0, 2, 3, 4, 5, 6, 7, 8] [0] rfl rfl (by decide) (by decide) rfl hk55 hF53 hB55.1 ht55 hvm55 rfl rfl
  have hG : s.heap.size + 1 ≤ H55.size := Nat.le_trans hG hz55
  refine W.eq (g2 := F0 m 34 ls [.int 1, .int 3]) (by rw [hw55]) ?_
  refine lv_if_eq (tgt := 41) hx hb dX9_sources_34 (by decide) (fun cz => absurd cz (by decide)) (fun _ => ?_)
  refine lv_iconst (v := 1) hx hb dX9_sources_37 (by decide) ?_
  refine lv_goto (tgt := 42) hx hb dX9_sources_38 (by decide) ?_
  refine lv_iadd hx hb dX9_sources_42 ?_
  refine lv_topi (fun y57 ey57 => ?_)
  obtain rfl : y57 = 4 := ey57.trans (by decide)
  refine lv_istore_n (lv' := [(1, .int 4), (3, .ref h6), (2, .ref a5), (0, .ref h0)]) hx hb dX9_sources_43 rfl hl (by decide) rfl (fun ls hl => ?_)
  refine lv_goto (tgt := 10) hx hb dX9_sources_44 (by decide) ?_
  refine lv_aload_n hx hb dX9_sources_10 rfl (lv_at hl 2 rfl) ?_
  have hF58 := va_free (wc := [(a5, .inr (1, [.int 4, .int 3, .int 5, .ref h1])), (h1, .inr (0, [.int 5, .ref h2, .int 5]))]) hD hS hA [5, 6] rfl
  refine va_callFi (va_runF (As := []) (rest := []) (hK.1 1 _ rfl).2 ⟨hx, hb, hml, hown, hts⟩ (k453_hasNext l hl9 dC dI z a5 h1 h2 H55.size) (va_cwF 0 hts (gF q_261 q_262 q_263 q_246 q_260) rfl rfl rfl hT.2.2.2.2.2.2.1 (by decide +kernel) ⟨Nat.le_of_ble_eq_true rfl, Nat.le_of_ble_eq_true rfl⟩) ⟨pc_blind, va_recv hK hP (ci := 1) (q0 := 5) rfl rfl, fun U hU hW => ⟨rfl, pc_mk hP hD hK hS hX hT [5, 6] [] rfl rfl rfl rfl hF58 hU hW⟩⟩ rfl rfl hl.1 rfl (lv_room (Nat.le_of_ble_eq_true rfl)) dX9_sources_11 ⟨(Nat.le_of_ble_eq_true rfl), (Nat.le_of_ble_eq_true rfl)⟩) hS (fun q9 _ h9 => hF58 q9 h9) hF58 (fun r61 u60 t60 H60 L60 ht60 hvm60 hw60 hB60 hz60 hk60 hS => ?_)
  obtain ⟨hP, hD, hK⟩ := pq_join (wr := [(h0, .inr (8, [.int 0, .ref h1, .ref o0, .ref o1, .ref o2, .int 0])), (h7, .inr (7, [.int 105, .int 120, .int 0, .int (-1), .int 0, .int (-1)])), (h3, .inr (7, [.int 105, .int 120, .int 0, .int (-1), .int 0, .int (-1)])), (h4, .inr (7, [.int 105, .int 120, .int 0, .int (-1), .int 0, .int (-1)])), (h5, .inr (7, [.int 105, .int 120, .int 0, .int (-1), .int 0, .int (-1)])), (h2, .inl (kc0, 10, .inr (.inr (.inr (.inr (va_up (va_up (va_up (va_up (va_up (fun _ => none) 0 (some h3)) 1 (some h4)) 2 (some h5)) 3 (some h6)) 4 (some h7))))))), (h6, .inr (7, [.int 105, .int 120, .int 0, .int (-1), .int 0, .int (-1)]))]) (tr := [(kc0, .object "java/lang/Object")]) (wz := [(h0, .inr (8, [.int 0, .ref h1, .ref o0, .ref o1, .ref o2, .int 0])), (h7, .inr (7, [.int 105, .int 120, .int 0, .int (-1), .int 0, .int (-1)])), (h3, .inr (7, [.int 105, .int 120, .int 0, .int (-1), .int 0, .int (-1)])), (h4, .inr (7, [.int 105, .int 120, .int 0, .int (-1), .int 0, .int (-1)])), (h5, .inr (7, [.int 105, .int 120, .int 0, .int (-1), .int 0, .int (-1)])), (h2, .inl (kc0, 10, .inr (.inr (.inr (.inr (va_up (va_up (va_up (va_up (va_up (fun _ => none) 0 (some h3)) 1 (some h4)) 2 (some h5)) 3 (some h6)) 4 (some h7))))))), (h6, .inr (7, [.int 105, .int 120, .int 0, .int (-1), .int 0, .int (-1)])), (a5, .inr (1, [.int 4, .int 3, .int 5, .ref h1])), (h1, .inr (0, [.int 5, .ref h2, .int 5]))]) (tz := [(kc0, .object "java/lang/Object")]) hP hD hK [5, 6] [0, 1, 2, 3, 4, 7, 8] [0] rfl rfl (by decide) (by decide) rfl hk60 hF58 hB60.1 ht60 hvm60 rfl rfl
  have hG : s.heap.size + 1 ≤ H60.size := Nat.le_trans hG hz60
  refine W.eq (g2 := F0 m 16 ls [.int 1]) (by rw [hw60]) ?_
  refine lv_if_eq (tgt := 47) hx hb dX9_sources_16 (by decide) (fun cz => absurd cz (by decide)) (fun _ => ?_)
  refine lv_aload_n hx hb dX9_sources_19 rfl (lv_at hl 2 rfl) ?_
  have hF62 := va_free (wc := [(a5, .inr (1, [.int 4, .int 3, .int 5, .ref h1])), (h1, .inr (0, [.int 5, .ref h2, .int 5])), (h2, .inl (kc0, 10, .inr (.inr (.inr (.inr (va_up (va_up (va_up (va_up (va_up (fun _ => none) 0 (some h3)) 1 (some h4)) 2 (some h5)) 3 (some h6)) 4 (some h7)))))))]) hD hS hA [7, 8, 5] rfl
  refine va_callFr (va_runF (As := []) (rest := []) (hK.1 1 _ rfl).2 ⟨hx, hb, hml, hown, hts⟩ (k455_next l hl9 dC dI z a5 h1 h2 h3 h4 h5 h6 h7 H60.size kc0) (va_cwF 0 hts (gF q_308 q_309 q_310 q_246 q_307) rfl rfl rfl hT.2.2.2.2.2.2.2.1 (by decide +kernel) ⟨Nat.le_of_ble_eq_true rfl, Nat.le_of_ble_eq_true rfl⟩) ⟨pc_blind, va_recv hK hP (ci := 1) (q0 := 7) rfl rfl, fun U hU hW => ⟨rfl, pc_mk hP hD hK hS hX hT [7, 8, 5] [0] rfl rfl rfl rfl hF62 hU hW⟩⟩ rfl rfl hl.1 rfl (lv_room (Nat.le_of_ble_eq_true rfl)) dX9_sources_20 ⟨(Nat.le_of_ble_eq_true rfl), (Nat.le_of_ble_eq_true rfl)⟩) hS (fun q9 _ h9 => hF62 q9 h9) hF62 (fun u64 r65 t64 H64 L64 ht64 hvm64 hw64 hB64 hz64 hk64 hS => ?_)
  obtain ⟨hr64, hB64⟩ := hB64
  obtain ⟨hP, hD, hK⟩ := pq_join (wr := [(h0, .inr (8, [.int 0, .ref h1, .ref o0, .ref o1, .ref o2, .int 0])), (h7, .inr (7, [.int 105, .int 120, .int 0, .int (-1), .int 0, .int (-1)])), (h3, .inr (7, [.int 105, .int 120, .int 0, .int (-1), .int 0, .int (-1)])), (h4, .inr (7, [.int 105, .int 120, .int 0, .int (-1), .int 0, .int (-1)])), (h5, .inr (7, [.int 105, .int 120, .int 0, .int (-1), .int 0, .int (-1)])), (h6, .inr (7, [.int 105, .int 120, .int 0, .int (-1), .int 0, .int (-1)]))]) (tr := []) (wz := [(h0, .inr (8, [.int 0, .ref h1, .ref o0, .ref o1, .ref o2, .int 0])), (h7, .inr (7, [.int 105, .int 120, .int 0, .int (-1), .int 0, .int (-1)])), (h3, .inr (7, [.int 105, .int 120, .int 0, .int (-1), .int 0, .int (-1)])), (h4, .inr (7, [.int 105, .int 120, .int 0, .int (-1), .int 0, .int (-1)])), (h5, .inr (7, [.int 105, .int 120, .int 0, .int (-1), .int 0, .int (-1)])), (h6, .inr (7, [.int 105, .int 120, .int 0, .int (-1), .int 0, .int (-1)])), (a5, .inr (1, [.int 5, .int 4, .int 5, .ref h1])), (h1, .inr (0, [.int 5, .ref h2, .int 5])), (h2, .inl (kc0, 10, .inr (.inr (.inr (.inr (va_up (va_up (va_up (va_up (va_up (fun _ => none) 0 (some h3)) 1 (some h4)) 2 (some h5)) 3 (some h6)) 4 (some h7)))))))]) (tz := [(kc0, .object "java/lang/Object")]) hP hD hK [7, 8, 5] [0, 1, 2, 3, 4, 6] [] rfl rfl (by decide) (by decide) rfl hk64 hF62 hB64.1 ht64 hvm64 rfl rfl
  have hG : s.heap.size + 1 ≤ H64.size := Nat.le_trans hG hz64
  refine W.eq (g2 := F0 m 25 ls [.ref h7]) (by rw [hr64]) ?_
  refine va_castE (nm := RX8) hx hb hown (hts _ q_273) (va_recv hK hP (ci := 7) (q0 := 1) rfl rfl) dX9_sources_25 ?_
  refine lv_astore_n (lv' := [(3, .ref h7), (1, .int 4), (2, .ref a5), (0, .ref h0)]) hx hb dX9_sources_28 rfl hl (by decide) rfl (fun ls hl => ?_)
  refine lv_iload_n hx hb dX9_sources_29 rfl (lv_at hl 1 rfl) ?_
  refine lv_aload_n hx hb dX9_sources_30 rfl (lv_at hl 0 rfl) ?_
  have hF66 := va_free (wc := [(h7, .inr (7, [.int 105, .int 120, .int 0, .int (-1), .int 0, .int (-1)]))]) hD hS hA [1] rfl
  refine va_calli (va_runV (As := []) (rest := [.int 4]) ⟨hx, hb, hml, hown, hts⟩ (k121_isSource l hl9 dC dI z h7 H64.size) (cwV 0 hts (gV q_344 q_345 q_346 q_275 q_343) rfl rfl rfl (by decide +kernel) ⟨Nat.le_of_ble_eq_true rfl, Nat.le_of_ble_eq_true rfl⟩) ⟨pc_blind, va_recv hK hP (ci := 7) (q0 := 1) rfl rfl, fun U hU hW => ⟨rfl, pc_mk hP hD hK hS hX hT [1] [] rfl rfl rfl rfl hF66 hU hW⟩⟩ rfl rfl hl.1 rfl (lv_room (Nat.le_of_ble_eq_true rfl)) dX9_sources_31 ⟨(Nat.le_of_ble_eq_true rfl), (Nat.le_of_ble_eq_true rfl)⟩) hS (fun q9 _ h9 => hF66 q9 h9) hF66 (fun r69 u68 t68 H68 L68 ht68 hvm68 hw68 hB68 hz68 hk68 hS => ?_)
  obtain ⟨hP, hD, hK⟩ := pq_join (wr := [(h0, .inr (8, [.int 0, .ref h1, .ref o0, .ref o1, .ref o2, .int 0])), (h3, .inr (7, [.int 105, .int 120, .int 0, .int (-1), .int 0, .int (-1)])), (h4, .inr (7, [.int 105, .int 120, .int 0, .int (-1), .int 0, .int (-1)])), (h5, .inr (7, [.int 105, .int 120, .int 0, .int (-1), .int 0, .int (-1)])), (h6, .inr (7, [.int 105, .int 120, .int 0, .int (-1), .int 0, .int (-1)])), (a5, .inr (1, [.int 5, .int 4, .int 5, .ref h1])), (h1, .inr (0, [.int 5, .ref h2, .int 5])), (h2, .inl (kc0, 10, .inr (.inr (.inr (.inr (va_up (va_up (va_up (va_up (va_up (fun _ => none) 0 (some h3)) 1 (some h4)) 2 (some h5)) 3 (some h6)) 4 (some h7)))))))]) (tr := [(kc0, .object "java/lang/Object")]) (wz := [(h0, .inr (8, [.int 0, .ref h1, .ref o0, .ref o1, .ref o2, .int 0])), (h3, .inr (7, [.int 105, .int 120, .int 0, .int (-1), .int 0, .int (-1)])), (h4, .inr (7, [.int 105, .int 120, .int 0, .int (-1), .int 0, .int (-1)])), (h5, .inr (7, [.int 105, .int 120, .int 0, .int (-1), .int 0, .int (-1)])), (h6, .inr (7, [.int 105, .int 120, .int 0, .int (-1), .int 0, .int (-1)])), (a5, .inr (1, [.int 5, .int 4, .int 5, .ref h1])), (h1, .inr (0, [.int 5, .ref h2, .int 5])), (h2, .inl (kc0, 10, .inr (.inr (.inr (.inr (va_up (va_up (va_up (va_up (va_up (fun _ => none) 0 (some h3)) 1 (some h4)) 2 (some h5)) 3 (some h6)) 4 (some h7))))))), (h7, .inr (7, [.int 105, .int 120, .int 0, .int (-1), .int 0, .int (-1)]))]) (tz := [(kc0, .object "java/lang/Object")]) hP hD hK [1] [0, 2, 3, 4, 5, 6, 7, 8] [0] rfl rfl (by decide) (by decide) rfl hk68 hF66 hB68.1 ht68 hvm68 rfl rfl
  have hG : s.heap.size + 1 ≤ H68.size := Nat.le_trans hG hz68
  refine W.eq (g2 := F0 m 34 ls [.int 1, .int 4]) (by rw [hw68]) ?_
  refine lv_if_eq (tgt := 41) hx hb dX9_sources_34 (by decide) (fun cz => absurd cz (by decide)) (fun _ => ?_)
  refine lv_iconst (v := 1) hx hb dX9_sources_37 (by decide) ?_
  refine lv_goto (tgt := 42) hx hb dX9_sources_38 (by decide) ?_
  refine lv_iadd hx hb dX9_sources_42 ?_
  refine lv_topi (fun y70 ey70 => ?_)
  obtain rfl : y70 = 5 := ey70.trans (by decide)
  refine lv_istore_n (lv' := [(1, .int 5), (3, .ref h7), (2, .ref a5), (0, .ref h0)]) hx hb dX9_sources_43 rfl hl (by decide) rfl (fun ls hl => ?_)
  refine lv_goto (tgt := 10) hx hb dX9_sources_44 (by decide) ?_
  refine lv_aload_n hx hb dX9_sources_10 rfl (lv_at hl 2 rfl) ?_
  have hF71 := va_free (wc := [(a5, .inr (1, [.int 5, .int 4, .int 5, .ref h1])), (h1, .inr (0, [.int 5, .ref h2, .int 5]))]) hD hS hA [5, 6] rfl
  refine va_callFi (va_runF (As := []) (rest := []) (hK.1 1 _ rfl).2 ⟨hx, hb, hml, hown, hts⟩ (k456_hasNext l hl9 dC dI z a5 h1 h2 H68.size) (va_cwF 0 hts (gF q_261 q_262 q_263 q_246 q_260) rfl rfl rfl hT.2.2.2.2.2.2.1 (by decide +kernel) ⟨Nat.le_of_ble_eq_true rfl, Nat.le_of_ble_eq_true rfl⟩) ⟨pc_blind, va_recv hK hP (ci := 1) (q0 := 5) rfl rfl, fun U hU hW => ⟨rfl, pc_mk hP hD hK hS hX hT [5, 6] [] rfl rfl rfl rfl hF71 hU hW⟩⟩ rfl rfl hl.1 rfl (lv_room (Nat.le_of_ble_eq_true rfl)) dX9_sources_11 ⟨(Nat.le_of_ble_eq_true rfl), (Nat.le_of_ble_eq_true rfl)⟩) hS (fun q9 _ h9 => hF71 q9 h9) hF71 (fun r74 u73 t73 H73 L73 ht73 hvm73 hw73 hB73 hz73 hk73 hS => ?_)
  obtain ⟨hP, hD, hK⟩ := pq_join (wr := [(h0, .inr (8, [.int 0, .ref h1, .ref o0, .ref o1, .ref o2, .int 0])), (h3, .inr (7, [.int 105, .int 120, .int 0, .int (-1), .int 0, .int (-1)])), (h4, .inr (7, [.int 105, .int 120, .int 0, .int (-1), .int 0, .int (-1)])), (h5, .inr (7, [.int 105, .int 120, .int 0, .int (-1), .int 0, .int (-1)])), (h6, .inr (7, [.int 105, .int 120, .int 0, .int (-1), .int 0, .int (-1)])), (h2, .inl (kc0, 10, .inr (.inr (.inr (.inr (va_up (va_up (va_up (va_up (va_up (fun _ => none) 0 (some h3)) 1 (some h4)) 2 (some h5)) 3 (some h6)) 4 (some h7))))))), (h7, .inr (7, [.int 105, .int 120, .int 0, .int (-1), .int 0, .int (-1)]))]) (tr := [(kc0, .object "java/lang/Object")]) (wz := [(h0, .inr (8, [.int 0, .ref h1, .ref o0, .ref o1, .ref o2, .int 0])), (h3, .inr (7, [.int 105, .int 120, .int 0, .int (-1), .int 0, .int (-1)])), (h4, .inr (7, [.int 105, .int 120, .int 0, .int (-1), .int 0, .int (-1)])), (h5, .inr (7, [.int 105, .int 120, .int 0, .int (-1), .int 0, .int (-1)])), (h6, .inr (7, [.int 105, .int 120, .int 0, .int (-1), .int 0, .int (-1)])), (h2, .inl (kc0, 10, .inr (.inr (.inr (.inr (va_up (va_up (va_up (va_up (va_up (fun _ => none) 0 (some h3)) 1 (some h4)) 2 (some h5)) 3 (some h6)) 4 (some h7))))))), (h7, .inr (7, [.int 105, .int 120, .int 0, .int (-1), .int 0, .int (-1)])), (a5, .inr (1, [.int 5, .int 4, .int 5, .ref h1])), (h1, .inr (0, [.int 5, .ref h2, .int 5]))]) (tz := [(kc0, .object "java/lang/Object")]) hP hD hK [5, 6] [0, 1, 2, 3, 4, 7, 8] [0] rfl rfl (by decide) (by decide) rfl hk73 hF71 hB73.1 ht73 hvm73 rfl rfl
  have hG : s.heap.size + 1 ≤ H73.size := Nat.le_trans hG hz73
  refine W.eq (g2 := F0 m 16 ls [.int 0]) (by rw [hw73]) ?_
  refine lv_if_eq (tgt := 47) hx hb dX9_sources_16 (by decide) (fun _ => ?_) (fun cz => absurd (by decide) cz)
  refine lv_iload_n hx hb dX9_sources_47 rfl (lv_at hl 0 rfl) ?_
  exact W.iret (v := 5) hx hb hr (fun t9 ht9 hW9 => ⟨⟨5, (), rfl, rfl, ⟨pq_mk (wc := [(h0, .inr (8, [.int 0, .ref h1, .ref o0, .ref o1, .ref o2, .int 0])), (h1, .inr (0, [.int 5, .ref h2, .int 5])), (h2, .inl (kc0, 10, .inr (.inr (.inr (.inr (va_up (va_up (va_up (va_up (va_up (fun _ => none) 0 (some h3)) 1 (some h4)) 2 (some h5)) 3 (some h6)) 4 (some h7))))))), (h3, .inr (7, [.int 105, .int 120, .int 0, .int (-1), .int 0, .int (-1)])), (h4, .inr (7, [.int 105, .int 120, .int 0, .int (-1), .int 0, .int (-1)])), (h5, .inr (7, [.int 105, .int 120, .int 0, .int (-1), .int 0, .int (-1)])), (h6, .inr (7, [.int 105, .int 120, .int 0, .int (-1), .int 0, .int (-1)])), (h7, .inr (7, [.int 105, .int 120, .int 0, .int (-1), .int 0, .int (-1)]))]) (tc := [(kc0, .object "java/lang/Object")]) hP hD hK [0, 8, 5, 1, 2, 3, 4, 6] [0] rfl rfl rfl rfl ht9 hW9, by rw [ht9]; exact Nat.le_trans (Nat.add_le_add_left (Nat.le_of_ble_eq_true rfl) _) hG⟩⟩, hS.F ht9⟩) hS.2.2 dX9_sources_48

set_option maxHeartbeats 4000000 in
set_option maxRecDepth 100000 in
theorem k487_rows (l : Launch) (hl9 : l.stackTraces = false) (dC : Nat → ClassId) (dI : Nat → Nat → Nat) (z : XZ) (h0 h1 h2 h3 h4 h5 h6 h7 : Nat) (o0 o1 o2 : Nat) (sz : Nat) (kc0 : ClassId) : Met l yX9_rows (.code yX9_rows cX9_rows 1 (some .int) :: wsL_law) ({ frames := 4, cells := 1, slots := 4, locals := 80 }) (va_Pc [.ref h0] (PC (dC, dI) [(h0, .inr (8, [.int 0, .ref h1, .ref o0, .ref o1, .ref o2, .int 0])), (h1, .inr (0, [.int 5, .ref h2, .int 5])), (h2, .inl (kc0, 10, .inr (.inr (.inr (.inr (va_up (va_up (va_up (va_up (va_up (fun _ => none) 0 (some h3)) 1 (some h4)) 2 (some h5)) 3 (some h6)) 4 (some h7))))))), (h3, .inr (7, [.int 105, .int 120, .int 0, .int (-1), .int 0, .int (-1)])), (h4, .inr (7, [.int 105, .int 120, .int 0, .int (-1), .int 0, .int (-1)])), (h5, .inr (7, [.int 105, .int 120, .int 0, .int (-1), .int 0, .int (-1)])), (h6, .inr (7, [.int 105, .int 120, .int 0, .int (-1), .int 0, .int (-1)])), (h7, .inr (7, [.int 105, .int 120, .int 0, .int (-1), .int 0, .int (-1)]))] [(kc0, .object "java/lang/Object")] sz z)) (va_Qi (fun (r : Int32) (_ : Unit) => r = 32) (fun (_ : Unit) (t : State) => PG (dC, dI) [(h0, .inr (8, [.int 0, .ref h1, .ref o0, .ref o1, .ref o2, .int 0])), (h1, .inr (0, [.int 5, .ref h2, .int 5])), (h2, .inl (kc0, 10, .inr (.inr (.inr (.inr (va_up (va_up (va_up (va_up (va_up (fun _ => none) 0 (some h3)) 1 (some h4)) 2 (some h5)) 3 (some h6)) 4 (some h7))))))), (h3, .inr (7, [.int 105, .int 120, .int 0, .int (-1), .int 0, .int (-1)])), (h4, .inr (7, [.int 105, .int 120, .int 0, .int (-1), .int 0, .int (-1)])), (h5, .inr (7, [.int 105, .int 120, .int 0, .int (-1), .int 0, .int (-1)])), (h6, .inr (7, [.int 105, .int 120, .int 0, .int (-1), .int 0, .int (-1)])), (h7, .inr (7, [.int 105, .int 120, .int 0, .int (-1), .int 0, .int (-1)]))] [(kc0, .object "java/lang/Object")] (va_A [(h0, .inr (8, [.int 0, .ref h1, .ref o0, .ref o1, .ref o2, .int 0])), (h1, .inr (0, [.int 5, .ref h2, .int 5])), (h2, .inl (kc0, 10, .inr (.inr (.inr (.inr (va_up (va_up (va_up (va_up (va_up (fun _ => none) 0 (some h3)) 1 (some h4)) 2 (some h5)) 3 (some h6)) 4 (some h7))))))), (h3, .inr (7, [.int 105, .int 120, .int 0, .int (-1), .int 0, .int (-1)])), (h4, .inr (7, [.int 105, .int 120, .int 0, .int (-1), .int 0, .int (-1)])), (h5, .inr (7, [.int 105, .int 120, .int 0, .int (-1), .int 0, .int (-1)])), (h6, .inr (7, [.int 105, .int 120, .int 0, .int (-1), .int 0, .int (-1)])), (h7, .inr (7, [.int 105, .int 120, .int 0, .int (-1), .int 0, .int (-1)]))] sz) sz 1 t) (va_A [(h0, .inr (8, [.int 0, .ref h1, .ref o0, .ref o1, .ref o2, .int 0])), (h1, .inr (0, [.int 5, .ref h2, .int 5])), (h2, .inl (kc0, 10, .inr (.inr (.inr (.inr (va_up (va_up (va_up (va_up (va_up (fun _ => none) 0 (some h3)) 1 (some h4)) 2 (some h5)) 3 (some h6)) 4 (some h7))))))), (h3, .inr (7, [.int 105, .int 120, .int 0, .int (-1), .int 0, .int (-1)])), (h4, .inr (7, [.int 105, .int 120, .int 0, .int (-1), .int 0, .int (-1)])), (h5, .inr (7, [.int 105, .int 120, .int 0, .int (-1), .int 0, .int (-1)])), (h6, .inr (7, [.int 105, .int 120, .int 0, .int (-1), .int 0, .int (-1)])), (h7, .inr (7, [.int 105, .int 120, .int 0, .int (-1), .int 0, .int (-1)]))] sz)) 1 4 (va_A [(h0, .inr (8, [.int 0, .ref h1, .ref o0, .ref o1, .ref o2, .int 0])), (h1, .inr (0, [.int 5, .ref h2, .int 5])), (h2, .inl (kc0, 10, .inr (.inr (.inr (.inr (va_up (va_up (va_up (va_up (va_up (fun _ => none) 0 (some h3)) 1 (some h4)) 2 (some h5)) 3 (some h6)) 4 (some h7))))))), (h3, .inr (7, [.int 105, .int 120, .int 0, .int (-1), .int 0, .int (-1)])), (h4, .inr (7, [.int 105, .int 120, .int 0, .int (-1), .int 0, .int (-1)])), (h5, .inr (7, [.int 105, .int 120, .int 0, .int (-1), .int 0, .int (-1)])), (h6, .inr (7, [.int 105, .int 120, .int 0, .int (-1), .int 0, .int (-1)])), (h7, .inr (7, [.int 105, .int 120, .int 0, .int (-1), .int 0, .int (-1)]))] sz) := by
  refine Met.ofW (cc := cX9_rows) (maxL := 1) (ret := (some .int)) (by decide) rfl ?_
  intro p e s m args below meth c s₁ B hml hv
  obtain ⟨rfl, hsz, hP, hK, hD0, hX, hT⟩ := hv
  have hx := B.exec
  have hb := B.bytes
  have hr := B.returns
  have hts0 := atoms_spec (ws := .code yX9_rows cX9_rows 1 (some .int) :: wsL_law) B.pre
  have hts := xTail hts0
  have hown : s.vm.findClass RX9 = some m.cls := findClass_of_methodNamed B.named
  have hlocks := B.notSynchronized
  subst hsz
  have hD := hD0.self (sz := s.heap.size)
  generalize hAe : va_A [(h0, .inr (8, [.int 0, .ref h1, .ref o0, .ref o1, .ref o2, .int 0])), (h1, .inr (0, [.int 5, .ref h2, .int 5])), (h2, .inl (kc0, 10, .inr (.inr (.inr (.inr (va_up (va_up (va_up (va_up (va_up (fun _ => none) 0 (some h3)) 1 (some h4)) 2 (some h5)) 3 (some h6)) 4 (some h7))))))), (h3, .inr (7, [.int 105, .int 120, .int 0, .int (-1), .int 0, .int (-1)])), (h4, .inr (7, [.int 105, .int 120, .int 0, .int (-1), .int 0, .int (-1)])), (h5, .inr (7, [.int 105, .int 120, .int 0, .int (-1), .int 0, .int (-1)])), (h6, .inr (7, [.int 105, .int 120, .int 0, .int (-1), .int 0, .int (-1)])), (h7, .inr (7, [.int 105, .int 120, .int 0, .int (-1), .int 0, .int (-1)]))] s.heap.size = A at hD hX ⊢
  have hA : ∀ q : Nat, s.heap.size ≤ q → A q := fun q h => by rw [← hAe]; exact Or.inr h
  have hS : va_S A s.heap s.heap [] := va_S.rf
  have hG : s.heap.size + 0 ≤ s.heap.size := Nat.le_refl _
  have hl := lv_entry ([.ref h0]) (n := 1) (Nat.le_of_ble_eq_true rfl)
  rw [lg_entry_eq]
  generalize (lg_sl ([.ref h0]) ++ List.replicate (1 - (lg_sl ([.ref h0])).length) Slot.unset).toArray = ls at hl ⊢
  have hl : lv_has ls 1 [(0, .ref h0)] := hl
  refine lv_iconst (v := 1) hx hb dX9_rows_0 (by decide) ?_
  refine lv_aload_n hx hb dX9_rows_1 rfl (lv_at hl 0 rfl) ?_
  have hF1 := va_free (wc := [(h0, .inr (8, [.int 0, .ref h1, .ref o0, .ref o1, .ref o2, .int 0])), (h1, .inr (0, [.int 5, .ref h2, .int 5])), (h2, .inl (kc0, 10, .inr (.inr (.inr (.inr (va_up (va_up (va_up (va_up (va_up (fun _ => none) 0 (some h3)) 1 (some h4)) 2 (some h5)) 3 (some h6)) 4 (some h7))))))), (h3, .inr (7, [.int 105, .int 120, .int 0, .int (-1), .int 0, .int (-1)])), (h4, .inr (7, [.int 105, .int 120, .int 0, .int (-1), .int 0, .int (-1)])), (h5, .inr (7, [.int 105, .int 120, .int 0, .int (-1), .int 0, .int (-1)])), (h6, .inr (7, [.int 105, .int 120, .int 0, .int (-1), .int 0, .int (-1)])), (h7, .inr (7, [.int 105, .int 120, .int 0, .int (-1), .int 0, .int (-1)]))]) hD hS hA [0, 1, 2, 3, 4, 5, 6, 7] rfl
  refine va_calli (va_runV (As := []) (rest := [.int 1]) ⟨hx, hb, hml, hown, hts⟩ (k486_sources l hl9 dC dI z h0 h1 h2 h3 h4 h5 h6 h7 o0 o1 o2 s.heap.size kc0) (cwV 0 hts (gV q_265 q_266 q_267 q_60 q_264) rfl rfl rfl (by decide +kernel) ⟨Nat.le_of_ble_eq_true rfl, Nat.le_of_ble_eq_true rfl⟩) ⟨pc_blind, va_recv hK hP (ci := 8) (q0 := 0) rfl rfl, fun U hU hW => ⟨rfl, pc_mk hP hD hK hS hX hT [0, 1, 2, 3, 4, 5, 6, 7] [0] rfl rfl rfl rfl hF1 hU hW⟩⟩ rfl rfl hl.1 rfl (lv_room (Nat.le_of_ble_eq_true rfl)) dX9_rows_2 ⟨(Nat.le_of_ble_eq_true rfl), (Nat.le_of_ble_eq_true rfl)⟩) hS (fun q9 _ h9 => hF1 q9 h9) hF1 (fun r4 u3 t3 H3 L3 ht3 hvm3 hw3 hB3 hz3 hk3 hS => ?_)
  obtain ⟨hP, hD, hK⟩ := pq_join (wr := []) (tr := []) (wz := [(h0, .inr (8, [.int 0, .ref h1, .ref o0, .ref o1, .ref o2, .int 0])), (h1, .inr (0, [.int 5, .ref h2, .int 5])), (h2, .inl (kc0, 10, .inr (.inr (.inr (.inr (va_up (va_up (va_up (va_up (va_up (fun _ => none) 0 (some h3)) 1 (some h4)) 2 (some h5)) 3 (some h6)) 4 (some h7))))))), (h3, .inr (7, [.int 105, .int 120, .int 0, .int (-1), .int 0, .int (-1)])), (h4, .inr (7, [.int 105, .int 120, .int 0, .int (-1), .int 0, .int (-1)])), (h5, .inr (7, [.int 105, .int 120, .int 0, .int (-1), .int 0, .int (-1)])), (h6, .inr (7, [.int 105, .int 120, .int 0, .int (-1), .int 0, .int (-1)])), (h7, .inr (7, [.int 105, .int 120, .int 0, .int (-1), .int 0, .int (-1)]))]) (tz := [(kc0, .object "java/lang/Object")]) hP hD hK [0, 1, 2, 3, 4, 5, 6, 7] [] [] rfl rfl (by decide) (by decide) rfl hk3 hF1 hB3.1 ht3 hvm3 rfl rfl
  have hG : s.heap.size + 1 ≤ H3.size := va_gr (g := 0) (g1 := 1) hG (by rw [← ht3]; exact hB3.2)
  refine W.eq (g2 := F0 m 5 ls [.int 5, .int 1]) (by rw [hw3]) ?_
  refine W.widen (k := 1) (n := 4) (by decide) (by decide) ?_
  refine lv_ishl hx hb dX9_rows_5 ?_
  refine lv_topi (fun y5 ey5 => ?_)
  obtain rfl : y5 = 32 := ey5.trans (by decide)
  exact W.iret (v := 32) hx hb hr (fun t9 ht9 hW9 => ⟨⟨32, (), rfl, rfl, ⟨pq_mk (wc := [(h0, .inr (8, [.int 0, .ref h1, .ref o0, .ref o1, .ref o2, .int 0])), (h1, .inr (0, [.int 5, .ref h2, .int 5])), (h2, .inl (kc0, 10, .inr (.inr (.inr (.inr (va_up (va_up (va_up (va_up (va_up (fun _ => none) 0 (some h3)) 1 (some h4)) 2 (some h5)) 3 (some h6)) 4 (some h7))))))), (h3, .inr (7, [.int 105, .int 120, .int 0, .int (-1), .int 0, .int (-1)])), (h4, .inr (7, [.int 105, .int 120, .int 0, .int (-1), .int 0, .int (-1)])), (h5, .inr (7, [.int 105, .int 120, .int 0, .int (-1), .int 0, .int (-1)])), (h6, .inr (7, [.int 105, .int 120, .int 0, .int (-1), .int 0, .int (-1)])), (h7, .inr (7, [.int 105, .int 120, .int 0, .int (-1), .int 0, .int (-1)]))]) (tc := [(kc0, .object "java/lang/Object")]) hP hD hK [0, 1, 2, 3, 4, 5, 6, 7] [0] rfl rfl rfl rfl ht9 hW9, by rw [ht9]; exact Nat.le_trans (Nat.add_le_add_left (Nat.le_of_ble_eq_true rfl) _) hG⟩⟩, hS.F ht9⟩) hS.2.2 dX9_rows_6

set_option maxHeartbeats 4000000 in
set_option maxRecDepth 100000 in
theorem k488_in (l : Launch) (hl9 : l.stackTraces = false) (dC : Nat → ClassId) (dI : Nat → Nat → Nat) (z : XZ) (sz : Nat) : Met l yX9_in (.code yX9_in cX9_in 3 (some .boolean) :: wsL_law) ({ frames := 0, cells := 0, slots := 0, locals := 0 }) (va_Pc [.int 0, .int 0, .int 31] (PC (dC, dI) [] [] sz z)) (va_Qi (fun (r : Int32) (_ : Unit) => r = 1) (fun (_ : Unit) (t : State) => PG (dC, dI) [] [] (va_A [] sz) sz 0 t) (va_A [] sz)) 0 0 (va_A [] sz) := by
  refine Met.ofW (cc := cX9_in) (maxL := 3) (ret := (some .boolean)) (by decide) rfl ?_
  intro p e s m args below meth c s₁ B hml hv
  obtain ⟨rfl, hsz, hP, hK, hD0, hX, hT⟩ := hv
  have hx := B.exec
  have hb := B.bytes
  have hr := B.returns
  have hts0 := atoms_spec (ws := .code yX9_in cX9_in 3 (some .boolean) :: wsL_law) B.pre
  have hts := xTail hts0
  have hown : s.vm.findClass RX9 = some m.cls := findClass_of_methodNamed B.named
  have hlocks := B.notSynchronized
  subst hsz
  have hD := hD0.self (sz := s.heap.size)
  generalize hAe : va_A [] s.heap.size = A at hD hX ⊢
  have hA : ∀ q : Nat, s.heap.size ≤ q → A q := fun q h => by rw [← hAe]; exact Or.inr h
  have hS : va_S A s.heap s.heap [] := va_S.rf
  have hG : s.heap.size + 0 ≤ s.heap.size := Nat.le_refl _
  have hl := lv_entry ([.int 0, .int 0, .int 31]) (n := 3) (Nat.le_of_ble_eq_true rfl)
  rw [lg_entry_eq]
  generalize (lg_sl ([.int 0, .int 0, .int 31]) ++ List.replicate (3 - (lg_sl ([.int 0, .int 0, .int 31])).length) Slot.unset).toArray = ls at hl ⊢
  have hl : lv_has ls 3 [(0, .int 0), (1, .int 0), (2, .int 31)] := hl
  refine lv_iload_n hx hb dX9_in_0 rfl (lv_at hl 0 rfl) ?_
  refine lv_iload_n hx hb dX9_in_1 rfl (lv_at hl 1 rfl) ?_
  refine lv_icmp_lt (tgt := 14) hx hb dX9_in_2 (by decide) (fun cz => absurd cz (by decide)) (fun _ => ?_)
  refine lv_iload_n hx hb dX9_in_5 rfl (lv_at hl 0 rfl) ?_
  refine lv_iload_n hx hb dX9_in_6 rfl (lv_at hl 2 rfl) ?_
  refine lv_icmp_gt (tgt := 14) hx hb dX9_in_7 (by decide) (fun cz => absurd cz (by decide)) (fun _ => ?_)
  refine lv_iconst (v := 1) hx hb dX9_in_10 (by decide) ?_
  refine lv_goto (tgt := 15) hx hb dX9_in_11 (by decide) ?_
  exact W.zret (v := 1) (ty := .boolean) hx hb hr rfl (fun t9 ht9 hW9 => ⟨⟨1, (), rfl, rfl, ⟨pq_mk (wc := []) (tc := []) hP hD hK [] [] rfl rfl rfl rfl ht9 hW9, by rw [ht9]; exact Nat.le_trans (Nat.add_le_add_left (Nat.le_of_ble_eq_true rfl) _) hG⟩⟩, hS.F ht9⟩) hS.2.2 dX9_in_15

set_option maxHeartbeats 4000000 in
set_option maxRecDepth 100000 in
theorem k489_add (l : Launch) (hl9 : l.stackTraces = false) (dC : Nat → ClassId) (dI : Nat → Nat → Nat) (z : XZ) (h0 : Nat) (sz : Nat) : Met l yJx4a65c_add_72be8 (.code yJx4a65c_add_72be8 cJx4a65c_add_72be8 4 none :: wsL_law) ({ frames := 3, cells := 1, slots := 10, locals := 65 }) (va_Pc [.ref h0, .ref (z.2.2.1 128), .ref z.1, .int 0] (PC (dC, dI) [(h0, .inr (0, [.int 1, .ref z.1, .int 0]))] [] sz z)) (va_Qv (fun (_ : Unit) => True) (fun (_ : Unit) (t : State) => ∃ (n0 : Nat), ∃ (m0 : ClassId), PG (dC, dI) [(h0, .inr (0, [.int 1, .ref n0, .int 1])), (n0, .inl (m0, 10, .inr (.inr (.inr (.inr (va_up (fun _ => none) 0 (some (z.2.2.1 128))))))))] [(m0, .object "java/lang/Object")] (va_A [(h0, .inr (0, [.int 1, .ref z.1, .int 0]))] sz) sz 1 t) (va_A [(h0, .inr (0, [.int 1, .ref z.1, .int 0]))] sz)) 1 10 (va_A [(h0, .inr (0, [.int 1, .ref z.1, .int 0]))] sz) := by
  refine Met.ofW (cc := cJx4a65c_add_72be8) (maxL := 4) (ret := none) (by decide) rfl ?_
  intro p e s m args below meth c s₁ B hml hv
  obtain ⟨rfl, hsz, hP, hK, hD0, hX, hT⟩ := hv
  have hx := B.exec
  have hb := B.bytes
  have hr := B.returns
  have hts0 := atoms_spec (ws := .code yJx4a65c_add_72be8 cJx4a65c_add_72be8 4 none :: wsL_law) B.pre
  have hts := xTail hts0
  have hown : s.vm.findClass RJx4a65c = some m.cls := findClass_of_methodNamed B.named
  have hlocks := B.notSynchronized
  subst hsz
  have hD := hD0.self (sz := s.heap.size)
  generalize hAe : va_A [(h0, .inr (0, [.int 1, .ref z.1, .int 0]))] s.heap.size = A at hD hX ⊢
  have hA : ∀ q : Nat, s.heap.size ≤ q → A q := fun q h => by rw [← hAe]; exact Or.inr h
  have hS : va_S A s.heap s.heap [] := va_S.rf
  have hG : s.heap.size + 0 ≤ s.heap.size := Nat.le_refl _
  have hl := lv_entry ([.ref h0, .ref (z.2.2.1 128), .ref z.1, .int 0]) (n := 4) (Nat.le_of_ble_eq_true rfl)
  rw [lg_entry_eq]
  generalize (lg_sl ([.ref h0, .ref (z.2.2.1 128), .ref z.1, .int 0]) ++ List.replicate (4 - (lg_sl ([.ref h0, .ref (z.2.2.1 128), .ref z.1, .int 0])).length) Slot.unset).toArray = ls at hl ⊢
  have hl : lv_has ls 4 [(0, .ref h0), (1, .ref (z.2.2.1 128)), (2, .ref z.1), (3, .int 0)] := hl
  refine lv_iload_n hx hb dJx4a65c_add_72be8_0 rfl (lv_at hl 3 rfl) ?_
  refine lv_aload_n hx hb dJx4a65c_add_72be8_1 rfl (lv_at hl 2 rfl) ?_
  refine va_tlen hx hb hX.1.2 hS (v := 0) rfl dJx4a65c_add_72be8_2 ?_
  refine lv_icmp_ne (tgt := 11) hx hb dJx4a65c_add_72be8_3 (by decide) (fun cz => absurd (by decide) cz) (fun _ => ?_)
  refine lv_aload_n hx hb dJx4a65c_add_72be8_6 rfl (lv_at hl 0 rfl) ?_
  have hF1 := va_free (wc := [(h0, .inr (0, [.int 1, .ref z.1, .int 0]))]) hD hS hA [0] rfl
  refine va_callr (va_runV (As := []) (rest := []) ⟨hx, hb, hml, hown, hts⟩ (k14_grow l hl9 dC dI z h0 s.heap.size) (cwV 0 hts (gV q_119 q_120 q_121 q_12 q_118) rfl rfl rfl (by decide +kernel) ⟨Nat.le_of_ble_eq_true rfl, Nat.le_of_ble_eq_true rfl⟩) ⟨pc_blind, va_recv hK hP (ci := 0) (q0 := 0) rfl rfl, fun U hU hW => ⟨rfl, pc_mk hP hD hK hS hX hT [0] [] rfl rfl rfl rfl hF1 hU hW⟩⟩ rfl rfl hl.1 rfl (lv_room (Nat.le_of_ble_eq_true rfl)) dJx4a65c_add_72be8_7 ⟨(Nat.le_of_ble_eq_true rfl), (Nat.le_of_ble_eq_true rfl)⟩) hS (fun q9 _ h9 => hF1 q9 h9) hF1 (fun u3 r4 t3 H3 L3 ht3 hvm3 hw3 hB3 hz3 hk3 hS => ?_)
  obtain ⟨a5, k6, hr3, hB3⟩ := hB3
  obtain ⟨hP, hD, hK⟩ := pq_join (wr := []) (tr := []) (wz := [(h0, .inr (0, [.int 1, .ref a5, .int 0])), (a5, .inl (k6, 10, .inr (.inr (.inr (.inr (fun _ => none))))))]) (tz := [(k6, .object "java/lang/Object")]) hP hD hK [0] [] [] rfl rfl (by decide) (by decide) rfl hk3 hF1 hB3.1 ht3 hvm3 rfl rfl
  have hG : s.heap.size + 1 ≤ H3.size := va_gr (g := 0) (g1 := 1) hG (by rw [← ht3]; exact hB3.2)
  refine W.eq (g2 := F0 m 10 ls [.ref a5]) (by rw [hr3]) ?_
  refine W.widen (k := 1) (n := 10) (by decide) (by decide) ?_
  refine lv_astore_n (lv' := [(2, .ref a5), (0, .ref h0), (1, .ref (z.2.2.1 128)), (3, .int 0)]) hx hb dJx4a65c_add_72be8_10 rfl hl (by decide) rfl (fun ls hl => ?_)
  refine lv_aload_n hx hb dJx4a65c_add_72be8_11 rfl (lv_at hl 0 rfl) ?_
  refine lv_iload_n hx hb dJx4a65c_add_72be8_12 rfl (lv_at hl 3 rfl) ?_
  refine lv_aload_n hx hb dJx4a65c_add_72be8_13 rfl (lv_at hl 2 rfl) ?_
  refine vb_astq (E := "java/lang/Object") (C := "java/lang/Integer") hx hb hK hP hD (va_Sre hS) 1 0 rfl rfl (va_Orecv (hX.2.2.1.1.1 128 (by decide)) hS) (vb_asgC (hT.2.1.1 ("java/lang/Integer", "java/lang/Object") (by decide))) (i := 0) (by unfold vp_in; decide) dJx4a65c_add_72be8_14 (fun H7 _ hP hD hS' => ?_)
  have hG : s.heap.size + 1 ≤ H7.size := Nat.le_trans hG hS'.1
  have hS := va_Str hS hS'
  have hP : va_P (dC, dI) xCl [(h0, .inr (0, [.int 1, .ref a5, .int 0])), (a5, .inl (k6, 10, .inr (.inr (.inr (.inr (va_up (fun _ => none) 0 (some (z.2.2.1 128))))))))] H7 := hP
  have hD : va_D A [(h0, .inr (0, [.int 1, .ref a5, .int 0])), (a5, .inl (k6, 10, .inr (.inr (.inr (.inr (va_up (fun _ => none) 0 (some (z.2.2.1 128))))))))] := hD
  refine lv_aload_n hx hb dJx4a65c_add_72be8_15 rfl (lv_at hl 1 rfl) ?_
  refine lv_iload_n hx hb dJx4a65c_add_72be8_16 rfl (lv_at hl 3 rfl) ?_
  refine lv_iconst (v := 1) hx hb dJx4a65c_add_72be8_17 (by decide) ?_
  refine lv_iadd hx hb dJx4a65c_add_72be8_18 ?_
  refine lv_topi (fun y8 ey8 => ?_)
  obtain rfl : y8 = 1 := ey8.trans (by decide)
  refine va_put (D := (dC, dI)) (ci := 0) (v := .int 1) (ty := .int) (C := RJx4a65c) (T := TJx4a65c) (N := 3) hx hb hts in_Jx4a65c tyJx4a65c tyJx4a65c_ok nmJx4a65c hown hK hP hD (va_Sre hS) 0 rfl rfl 2 (by decide) (hts _ q_74) (fun _ h9 => h9) rfl (by decide +kernel) rfl rfl (Nat.le_of_ble_eq_true rfl) dJx4a65c_add_72be8_19 (fun H9 _ hP hD hS' => ?_)
  have hG : s.heap.size + 1 ≤ H9.size := Nat.le_trans hG hS'.1
  have hS := va_Str hS hS'
  have hP : va_P (dC, dI) xCl [(h0, .inr (0, [.int 1, .ref a5, .int 1])), (a5, .inl (k6, 10, .inr (.inr (.inr (.inr (va_up (fun _ => none) 0 (some (z.2.2.1 128))))))))] H9 := hP
  have hD : va_D A [(h0, .inr (0, [.int 1, .ref a5, .int 1])), (a5, .inl (k6, 10, .inr (.inr (.inr (.inr (va_up (fun _ => none) 0 (some (z.2.2.1 128))))))))] := hD
  exact W.vret hx hb hr (fun t9 ht9 hW9 => ⟨⟨(), rfl, trivial, ⟨a5, k6, ⟨pq_mk (wc := [(h0, .inr (0, [.int 1, .ref a5, .int 1])), (a5, .inl (k6, 10, .inr (.inr (.inr (.inr (va_up (fun _ => none) 0 (some (z.2.2.1 128))))))))]) (tc := [(k6, .object "java/lang/Object")]) hP hD hK [0, 1] [0] rfl rfl rfl rfl ht9 hW9, by rw [ht9]; exact Nat.le_trans (Nat.add_le_add_left (Nat.le_of_ble_eq_true rfl) _) hG⟩⟩⟩, hS.F ht9⟩) hS.2.2 dJx4a65c_add_72be8_22

set_option maxHeartbeats 4000000 in
set_option maxRecDepth 100000 in
theorem k490_add (l : Launch) (hl9 : l.stackTraces = false) (dC : Nat → ClassId) (dI : Nat → Nat → Nat) (z : XZ) (h0 : Nat) (sz : Nat) : Met l yJx4a65c_add_9ea2d (.code yJx4a65c_add_9ea2d cJx4a65c_add_9ea2d 2 (some .boolean) :: wsL_law) ({ frames := 4, cells := 1, slots := 10, locals := 88 }) (va_Pc [.ref h0, .ref (z.2.2.1 128)] (PC (dC, dI) [(h0, .inr (0, [.int 0, .ref z.1, .int 0]))] [] sz z)) (va_Qi (fun (r : Int32) (_ : Unit) => r = 1) (fun (_ : Unit) (t : State) => ∃ (n0 : Nat), ∃ (m0 : ClassId), PG (dC, dI) [(h0, .inr (0, [.int 1, .ref n0, .int 1])), (n0, .inl (m0, 10, .inr (.inr (.inr (.inr (va_up (fun _ => none) 0 (some (z.2.2.1 128))))))))] [(m0, .object "java/lang/Object")] (va_A [(h0, .inr (0, [.int 0, .ref z.1, .int 0]))] sz) sz 1 t) (va_A [(h0, .inr (0, [.int 0, .ref z.1, .int 0]))] sz)) 1 10 (va_A [(h0, .inr (0, [.int 0, .ref z.1, .int 0]))] sz) := by
  refine Met.ofW (cc := cJx4a65c_add_9ea2d) (maxL := 2) (ret := (some .boolean)) (by decide) rfl ?_
  intro p e s m args below meth c s₁ B hml hv
  obtain ⟨rfl, hsz, hP, hK, hD0, hX, hT⟩ := hv
  have hx := B.exec
  have hb := B.bytes
  have hr := B.returns
  have hts0 := atoms_spec (ws := .code yJx4a65c_add_9ea2d cJx4a65c_add_9ea2d 2 (some .boolean) :: wsL_law) B.pre
  have hts := xTail hts0
  have hown : s.vm.findClass RJx4a65c = some m.cls := findClass_of_methodNamed B.named
  have hlocks := B.notSynchronized
  subst hsz
  have hD := hD0.self (sz := s.heap.size)
  generalize hAe : va_A [(h0, .inr (0, [.int 0, .ref z.1, .int 0]))] s.heap.size = A at hD hX ⊢
  have hA : ∀ q : Nat, s.heap.size ≤ q → A q := fun q h => by rw [← hAe]; exact Or.inr h
  have hS : va_S A s.heap s.heap [] := va_S.rf
  have hG : s.heap.size + 0 ≤ s.heap.size := Nat.le_refl _
  have hl := lv_entry ([.ref h0, .ref (z.2.2.1 128)]) (n := 2) (Nat.le_of_ble_eq_true rfl)
  rw [lg_entry_eq]
  generalize (lg_sl ([.ref h0, .ref (z.2.2.1 128)]) ++ List.replicate (2 - (lg_sl ([.ref h0, .ref (z.2.2.1 128)])).length) Slot.unset).toArray = ls at hl ⊢
  have hl : lv_has ls 2 [(0, .ref h0), (1, .ref (z.2.2.1 128))] := hl
  refine lv_aload_n hx hb dJx4a65c_add_9ea2d_0 rfl (lv_at hl 0 rfl) ?_
  refine lv_dup hx hb dJx4a65c_add_9ea2d_1 rfl ?_
  refine va_get (D := (dC, dI)) (ci := 0) (v := .int 0) (C := RJx4a65c) (T := TJx4a65c) (N := 3) hx hb hts in_Jx4a65c hown hK hP 0 rfl rfl 0 (by decide) (hts _ q_108) (u_same (hts _ q_107)) rfl dJx4a65c_add_9ea2d_2 ?_
  refine lv_iconst (v := 1) hx hb dJx4a65c_add_9ea2d_5 (by decide) ?_
  refine lv_iadd hx hb dJx4a65c_add_9ea2d_6 ?_
  refine lv_topi (fun y1 ey1 => ?_)
  obtain rfl : y1 = 1 := ey1.trans (by decide)
  refine va_put (D := (dC, dI)) (ci := 0) (v := .int 1) (ty := .int) (C := RJx4a65c) (T := TJx4a65c) (N := 3) hx hb hts in_Jx4a65c tyJx4a65c tyJx4a65c_ok nmJx4a65c hown hK hP hD (va_Sre hS) 0 rfl rfl 0 (by decide) (hts _ q_108) (u_same (hts _ q_107)) rfl (by decide +kernel) rfl rfl (Nat.le_of_ble_eq_true rfl) dJx4a65c_add_9ea2d_7 (fun H2 _ hP hD hS' => ?_)
  have hG : s.heap.size + 0 ≤ H2.size := Nat.le_trans hG hS'.1
  have hS := va_Str hS hS'
  have hP : va_P (dC, dI) xCl [(h0, .inr (0, [.int 1, .ref z.1, .int 0]))] H2 := hP
  have hD : va_D A [(h0, .inr (0, [.int 1, .ref z.1, .int 0]))] := hD
  refine lv_aload_n hx hb dJx4a65c_add_9ea2d_10 rfl (lv_at hl 0 rfl) ?_
  refine lv_aload_n hx hb dJx4a65c_add_9ea2d_11 rfl (lv_at hl 1 rfl) ?_
  refine lv_aload_n hx hb dJx4a65c_add_9ea2d_12 rfl (lv_at hl 0 rfl) ?_
  refine va_get (D := (dC, dI)) (ci := 0) (v := .ref z.1) (C := RJx4a65c) (T := TJx4a65c) (N := 3) hx hb hts in_Jx4a65c hown hK hP 0 rfl rfl 1 (by decide) (hts _ q_24) (fun _ h9 => h9) rfl dJx4a65c_add_9ea2d_13 ?_
  refine lv_aload_n hx hb dJx4a65c_add_9ea2d_16 rfl (lv_at hl 0 rfl) ?_
  refine va_get (D := (dC, dI)) (ci := 0) (v := .int 0) (C := RJx4a65c) (T := TJx4a65c) (N := 3) hx hb hts in_Jx4a65c hown hK hP 0 rfl rfl 2 (by decide) (hts _ q_74) (fun _ h9 => h9) rfl dJx4a65c_add_9ea2d_17 ?_
  have hF3 := va_free (wc := [(h0, .inr (0, [.int 1, .ref z.1, .int 0]))]) hD hS hA [0] rfl
  refine va_callv (va_runV (As := [.ref (z.2.2.1 128), .ref z.1, .int 0]) (rest := []) ⟨hx, hb, hml, hown, hts⟩ (k489_add l hl9 dC dI z h0 H2.size) (cwV 3 hts (gV q_123 q_124 q_125 q_12 q_122) rfl rfl rfl (by decide +kernel) ⟨Nat.le_of_ble_eq_true rfl, Nat.le_of_ble_eq_true rfl⟩) ⟨pc_blind, va_recv hK hP (ci := 0) (q0 := 0) rfl rfl, fun U hU hW => ⟨rfl, pc_mk hP hD hK hS hX hT [0] [] rfl rfl rfl rfl hF3 hU hW⟩⟩ rfl rfl hl.1 rfl (lv_room (Nat.le_of_ble_eq_true rfl)) dJx4a65c_add_9ea2d_20 ⟨(Nat.le_of_ble_eq_true rfl), (Nat.le_of_ble_eq_true rfl)⟩) hS (fun q9 _ h9 => hF3 q9 h9) hF3 (fun u5 t5 H5 L5 ht5 hvm5 hw5 hB5 hz5 hk5 hS => ?_)
  obtain ⟨a7, k8, hB5⟩ := hB5
  obtain ⟨hP, hD, hK⟩ := pq_join (wr := []) (tr := []) (wz := [(h0, .inr (0, [.int 1, .ref a7, .int 1])), (a7, .inl (k8, 10, .inr (.inr (.inr (.inr (va_up (fun _ => none) 0 (some (z.2.2.1 128))))))))]) (tz := [(k8, .object "java/lang/Object")]) hP hD hK [0] [] [] rfl rfl (by decide) (by decide) rfl hk5 hF3 hB5.1 ht5 hvm5 rfl rfl
  have hG : s.heap.size + 1 ≤ H5.size := va_gr (g := 0) (g1 := 1) hG (by rw [← ht5]; exact hB5.2)
  refine W.widen (k := 1) (n := 10) (by decide) (by decide) ?_
  refine lv_iconst (v := 1) hx hb dJx4a65c_add_9ea2d_23 (by decide) ?_
  exact W.zret (v := 1) (ty := .boolean) hx hb hr rfl (fun t9 ht9 hW9 => ⟨⟨1, (), rfl, rfl, ⟨a7, k8, ⟨pq_mk (wc := [(h0, .inr (0, [.int 1, .ref a7, .int 1])), (a7, .inl (k8, 10, .inr (.inr (.inr (.inr (va_up (fun _ => none) 0 (some (z.2.2.1 128))))))))]) (tc := [(k8, .object "java/lang/Object")]) hP hD hK [0, 1] [0] rfl rfl rfl rfl ht9 hW9, by rw [ht9]; exact Nat.le_trans (Nat.add_le_add_left (Nat.le_of_ble_eq_true rfl) _) hG⟩⟩⟩, hS.F ht9⟩) hS.2.2 dJx4a65c_add_9ea2d_24

set_option maxHeartbeats 4000000 in
set_option maxRecDepth 100000 in
theorem k491_addTest (l : Launch) (hl9 : l.stackTraces = false) (dC : Nat → ClassId) (dI : Nat → Nat → Nat) (z : XZ) (h0 h1 h2 h3 h4 h5 h6 h7 h8 : Nat) (o0 o1 : Nat) (sz : Nat) (kc0 : ClassId) : Met l yX9_addTest (.code yX9_addTest cX9_addTest 2 (some .int) :: wsL_law) ({ frames := 5, cells := 2, slots := 14, locals := 109 }) (va_Pc [.ref h0, .int 0] (PC (dC, dI) [(h0, .inr (8, [.int 0, .ref h1, .ref o0, .ref h2, .ref o1, .int 0])), (h1, .inr (0, [.int 5, .ref h3, .int 5])), (h2, .inr (0, [.int 0, .ref z.1, .int 0])), (h3, .inl (kc0, 10, .inr (.inr (.inr (.inr (va_up (va_up (va_up (va_up (va_up (fun _ => none) 0 (some h4)) 1 (some h5)) 2 (some h6)) 3 (some h7)) 4 (some h8))))))), (h4, .inr (7, [.int 105, .int 120, .int 0, .int (-1), .int 0, .int (-1)])), (h5, .inr (7, [.int 105, .int 120, .int 0, .int (-1), .int 0, .int (-1)])), (h6, .inr (7, [.int 105, .int 120, .int 0, .int (-1), .int 0, .int (-1)])), (h7, .inr (7, [.int 105, .int 120, .int 0, .int (-1), .int 0, .int (-1)])), (h8, .inr (7, [.int 105, .int 120, .int 0, .int (-1), .int 0, .int (-1)]))] [(kc0, .object "java/lang/Object")] sz z)) (va_Qi (fun (r : Int32) (_ : Unit) => r = 1) (fun (_ : Unit) (t : State) => ∃ (n0 : Nat), ∃ (m0 : ClassId), PG (dC, dI) [(h0, .inr (8, [.int 0, .ref h1, .ref o0, .ref h2, .ref o1, .int 0])), (h1, .inr (0, [.int 5, .ref h3, .int 5])), (h2, .inr (0, [.int 1, .ref n0, .int 1])), (h3, .inl (kc0, 10, .inr (.inr (.inr (.inr (va_up (va_up (va_up (va_up (va_up (fun _ => none) 0 (some h4)) 1 (some h5)) 2 (some h6)) 3 (some h7)) 4 (some h8))))))), (h4, .inr (7, [.int 105, .int 120, .int 0, .int (-1), .int 0, .int (-1)])), (h5, .inr (7, [.int 105, .int 120, .int 0, .int (-1), .int 0, .int (-1)])), (h6, .inr (7, [.int 105, .int 120, .int 0, .int (-1), .int 0, .int (-1)])), (h7, .inr (7, [.int 105, .int 120, .int 0, .int (-1), .int 0, .int (-1)])), (h8, .inr (7, [.int 105, .int 120, .int 0, .int (-1), .int 0, .int (-1)])), (n0, .inl (m0, 10, .inr (.inr (.inr (.inr (va_up (fun _ => none) 0 (some (z.2.2.1 128))))))))] [(kc0, .object "java/lang/Object"), (m0, .object "java/lang/Object")] (va_A [(h0, .inr (8, [.int 0, .ref h1, .ref o0, .ref h2, .ref o1, .int 0])), (h1, .inr (0, [.int 5, .ref h3, .int 5])), (h2, .inr (0, [.int 0, .ref z.1, .int 0])), (h3, .inl (kc0, 10, .inr (.inr (.inr (.inr (va_up (va_up (va_up (va_up (va_up (fun _ => none) 0 (some h4)) 1 (some h5)) 2 (some h6)) 3 (some h7)) 4 (some h8))))))), (h4, .inr (7, [.int 105, .int 120, .int 0, .int (-1), .int 0, .int (-1)])), (h5, .inr (7, [.int 105, .int 120, .int 0, .int (-1), .int 0, .int (-1)])), (h6, .inr (7, [.int 105, .int 120, .int 0, .int (-1), .int 0, .int (-1)])), (h7, .inr (7, [.int 105, .int 120, .int 0, .int (-1), .int 0, .int (-1)])), (h8, .inr (7, [.int 105, .int 120, .int 0, .int (-1), .int 0, .int (-1)]))] sz) sz 2 t) (va_A [(h0, .inr (8, [.int 0, .ref h1, .ref o0, .ref h2, .ref o1, .int 0])), (h1, .inr (0, [.int 5, .ref h3, .int 5])), (h2, .inr (0, [.int 0, .ref z.1, .int 0])), (h3, .inl (kc0, 10, .inr (.inr (.inr (.inr (va_up (va_up (va_up (va_up (va_up (fun _ => none) 0 (some h4)) 1 (some h5)) 2 (some h6)) 3 (some h7)) 4 (some h8))))))), (h4, .inr (7, [.int 105, .int 120, .int 0, .int (-1), .int 0, .int (-1)])), (h5, .inr (7, [.int 105, .int 120, .int 0, .int (-1), .int 0, .int (-1)])), (h6, .inr (7, [.int 105, .int 120, .int 0, .int (-1), .int 0, .int (-1)])), (h7, .inr (7, [.int 105, .int 120, .int 0, .int (-1), .int 0, .int (-1)])), (h8, .inr (7, [.int 105, .int 120, .int 0, .int (-1), .int 0, .int (-1)]))] sz)) 2 14 (va_A [(h0, .inr (8, [.int 0, .ref h1, .ref o0, .ref h2, .ref o1, .int 0])), (h1, .inr (0, [.int 5, .ref h3, .int 5])), (h2, .inr (0, [.int 0, .ref z.1, .int 0])), (h3, .inl (kc0, 10, .inr (.inr (.inr (.inr (va_up (va_up (va_up (va_up (va_up (fun _ => none) 0 (some h4)) 1 (some h5)) 2 (some h6)) 3 (some h7)) 4 (some h8))))))), (h4, .inr (7, [.int 105, .int 120, .int 0, .int (-1), .int 0, .int (-1)])), (h5, .inr (7, [.int 105, .int 120, .int 0, .int (-1), .int 0, .int (-1)])), (h6, .inr (7, [.int 105, .int 120, .int 0, .int (-1), .int 0, .int (-1)])), (h7, .inr (7, [.int 105, .int 120, .int 0, .int (-1), .int 0, .int (-1)])), (h8, .inr (7, [.int 105, .int 120, .int 0, .int (-1), .int 0, .int (-1)]))] sz) := by
  refine Met.ofW (cc := cX9_addTest) (maxL := 2) (ret := (some .int)) (by decide) rfl ?_
  intro p e s m args below meth c s₁ B hml hv
  obtain ⟨rfl, hsz, hP, hK, hD0, hX, hT⟩ := hv
  have hx := B.exec
  have hb := B.bytes
  have hr := B.returns
  have hts0 := atoms_spec (ws := .code yX9_addTest cX9_addTest 2 (some .int) :: wsL_law) B.pre
  have hts := xTail hts0
  have hown : s.vm.findClass RX9 = some m.cls := findClass_of_methodNamed B.named
  have hlocks := B.notSynchronized
  subst hsz
  have hD := hD0.self (sz := s.heap.size)
  generalize hAe : va_A [(h0, .inr (8, [.int 0, .ref h1, .ref o0, .ref h2, .ref o1, .int 0])), (h1, .inr (0, [.int 5, .ref h3, .int 5])), (h2, .inr (0, [.int 0, .ref z.1, .int 0])), (h3, .inl (kc0, 10, .inr (.inr (.inr (.inr (va_up (va_up (va_up (va_up (va_up (fun _ => none) 0 (some h4)) 1 (some h5)) 2 (some h6)) 3 (some h7)) 4 (some h8))))))), (h4, .inr (7, [.int 105, .int 120, .int 0, .int (-1), .int 0, .int (-1)])), (h5, .inr (7, [.int 105, .int 120, .int 0, .int (-1), .int 0, .int (-1)])), (h6, .inr (7, [.int 105, .int 120, .int 0, .int (-1), .int 0, .int (-1)])), (h7, .inr (7, [.int 105, .int 120, .int 0, .int (-1), .int 0, .int (-1)])), (h8, .inr (7, [.int 105, .int 120, .int 0, .int (-1), .int 0, .int (-1)]))] s.heap.size = A at hD hX ⊢
  have hA : ∀ q : Nat, s.heap.size ≤ q → A q := fun q h => by rw [← hAe]; exact Or.inr h
  have hS : va_S A s.heap s.heap [] := va_S.rf
  have hG : s.heap.size + 0 ≤ s.heap.size := Nat.le_refl _
  have hl := lv_entry ([.ref h0, .int 0]) (n := 2) (Nat.le_of_ble_eq_true rfl)
  rw [lg_entry_eq]
  generalize (lg_sl ([.ref h0, .int 0]) ++ List.replicate (2 - (lg_sl ([.ref h0, .int 0])).length) Slot.unset).toArray = ls at hl ⊢
  have hl : lv_has ls 2 [(0, .ref h0), (1, .int 0)] := hl
  refine lv_aload_n hx hb dX9_addTest_0 rfl (lv_at hl 0 rfl) ?_
  refine lv_iconst (v := 0) hx hb dX9_addTest_1 (by decide) ?_
  refine va_put (D := (dC, dI)) (ci := 8) (v := .int 0) (ty := .int) (C := RX9) (T := TX9) (N := 6) hx hb hts in_X9 tyX9 tyX9_ok nmX9 hown hK hP hD (va_Sre hS) 0 rfl rfl 0 (by decide) (hts _ q_243) (fun _ h9 => h9) rfl (by decide +kernel) rfl rfl (Nat.le_of_ble_eq_true rfl) dX9_addTest_2 (fun H1 _ hP hD hS' => ?_)
  have hG : s.heap.size + 0 ≤ H1.size := Nat.le_trans hG hS'.1
  have hS := va_Str hS hS'
  have hP : va_P (dC, dI) xCl [(h0, .inr (8, [.int 0, .ref h1, .ref o0, .ref h2, .ref o1, .int 0])), (h1, .inr (0, [.int 5, .ref h3, .int 5])), (h2, .inr (0, [.int 0, .ref z.1, .int 0])), (h3, .inl (kc0, 10, .inr (.inr (.inr (.inr (va_up (va_up (va_up (va_up (va_up (fun _ => none) 0 (some h4)) 1 (some h5)) 2 (some h6)) 3 (some h7)) 4 (some h8))))))), (h4, .inr (7, [.int 105, .int 120, .int 0, .int (-1), .int 0, .int (-1)])), (h5, .inr (7, [.int 105, .int 120, .int 0, .int (-1), .int 0, .int (-1)])), (h6, .inr (7, [.int 105, .int 120, .int 0, .int (-1), .int 0, .int (-1)])), (h7, .inr (7, [.int 105, .int 120, .int 0, .int (-1), .int 0, .int (-1)])), (h8, .inr (7, [.int 105, .int 120, .int 0, .int (-1), .int 0, .int (-1)]))] H1 := hP
  have hD : va_D A [(h0, .inr (8, [.int 0, .ref h1, .ref o0, .ref h2, .ref o1, .int 0])), (h1, .inr (0, [.int 5, .ref h3, .int 5])), (h2, .inr (0, [.int 0, .ref z.1, .int 0])), (h3, .inl (kc0, 10, .inr (.inr (.inr (.inr (va_up (va_up (va_up (va_up (va_up (fun _ => none) 0 (some h4)) 1 (some h5)) 2 (some h6)) 3 (some h7)) 4 (some h8))))))), (h4, .inr (7, [.int 105, .int 120, .int 0, .int (-1), .int 0, .int (-1)])), (h5, .inr (7, [.int 105, .int 120, .int 0, .int (-1), .int 0, .int (-1)])), (h6, .inr (7, [.int 105, .int 120, .int 0, .int (-1), .int 0, .int (-1)])), (h7, .inr (7, [.int 105, .int 120, .int 0, .int (-1), .int 0, .int (-1)])), (h8, .inr (7, [.int 105, .int 120, .int 0, .int (-1), .int 0, .int (-1)]))] := hD
  refine lv_aload_n hx hb dX9_addTest_5 rfl (lv_at hl 0 rfl) ?_
  refine lv_iload_n hx hb dX9_addTest_6 rfl (lv_at hl 1 rfl) ?_
  refine lv_iconst (v := 0) hx hb dX9_addTest_7 (by decide) ?_
  refine lv_aload_n hx hb dX9_addTest_8 rfl (lv_at hl 0 rfl) ?_
  have hF2 := va_free (wc := [(h0, .inr (8, [.int 0, .ref h1, .ref o0, .ref h2, .ref o1, .int 0])), (h1, .inr (0, [.int 5, .ref h3, .int 5])), (h3, .inl (kc0, 10, .inr (.inr (.inr (.inr (va_up (va_up (va_up (va_up (va_up (fun _ => none) 0 (some h4)) 1 (some h5)) 2 (some h6)) 3 (some h7)) 4 (some h8))))))), (h4, .inr (7, [.int 105, .int 120, .int 0, .int (-1), .int 0, .int (-1)])), (h5, .inr (7, [.int 105, .int 120, .int 0, .int (-1), .int 0, .int (-1)])), (h6, .inr (7, [.int 105, .int 120, .int 0, .int (-1), .int 0, .int (-1)])), (h7, .inr (7, [.int 105, .int 120, .int 0, .int (-1), .int 0, .int (-1)])), (h8, .inr (7, [.int 105, .int 120, .int 0, .int (-1), .int 0, .int (-1)]))]) hD hS hA [0, 1, 3, 4, 5, 6, 7, 8] rfl
  refine va_calli (va_runV (As := []) (rest := [.int 0, .int 0, .ref h0]) ⟨hx, hb, hml, hown, hts⟩ (k487_rows l hl9 dC dI z h0 h1 h3 h4 h5 h6 h7 h8 o0 h2 o1 H1.size kc0) (cwV 0 hts (gV q_371 q_372 q_373 q_60 q_370) rfl rfl rfl (by decide +kernel) ⟨Nat.le_of_ble_eq_true rfl, Nat.le_of_ble_eq_true rfl⟩) ⟨pc_blind, va_recv hK hP (ci := 8) (q0 := 0) rfl rfl, fun U hU hW => ⟨rfl, pc_mk hP hD hK hS hX hT [0, 1, 3, 4, 5, 6, 7, 8] [0] rfl rfl rfl rfl hF2 hU hW⟩⟩ rfl rfl hl.1 rfl (lv_room (Nat.le_of_ble_eq_true rfl)) dX9_addTest_9 ⟨(Nat.le_of_ble_eq_true rfl), (Nat.le_of_ble_eq_true rfl)⟩) hS (fun q9 _ h9 => hF2 q9 h9) hF2 (fun r5 u4 t4 H4 L4 ht4 hvm4 hw4 hB4 hz4 hk4 hS => ?_)
  obtain ⟨hP, hD, hK⟩ := pq_join (wr := [(h2, .inr (0, [.int 0, .ref z.1, .int 0]))]) (tr := []) (wz := [(h2, .inr (0, [.int 0, .ref z.1, .int 0])), (h0, .inr (8, [.int 0, .ref h1, .ref o0, .ref h2, .ref o1, .int 0])), (h1, .inr (0, [.int 5, .ref h3, .int 5])), (h3, .inl (kc0, 10, .inr (.inr (.inr (.inr (va_up (va_up (va_up (va_up (va_up (fun _ => none) 0 (some h4)) 1 (some h5)) 2 (some h6)) 3 (some h7)) 4 (some h8))))))), (h4, .inr (7, [.int 105, .int 120, .int 0, .int (-1), .int 0, .int (-1)])), (h5, .inr (7, [.int 105, .int 120, .int 0, .int (-1), .int 0, .int (-1)])), (h6, .inr (7, [.int 105, .int 120, .int 0, .int (-1), .int 0, .int (-1)])), (h7, .inr (7, [.int 105, .int 120, .int 0, .int (-1), .int 0, .int (-1)])), (h8, .inr (7, [.int 105, .int 120, .int 0, .int (-1), .int 0, .int (-1)]))]) (tz := [(kc0, .object "java/lang/Object")]) hP hD hK [0, 1, 3, 4, 5, 6, 7, 8] [2] [] rfl rfl (by decide) (by decide) rfl hk4 hF2 hB4.1 ht4 hvm4 rfl rfl
  have hG : s.heap.size + 1 ≤ H4.size := va_gr (g := 0) (g1 := 1) hG (by rw [← ht4]; exact hB4.2)
  refine W.eq (g2 := F0 m 12 ls [.int 32, .int 0, .int 0, .ref h0]) (by rw [hw4]) ?_
  refine W.widen (k := 1) (n := 4) (by decide) (by decide) ?_
  refine lv_iconst (v := 1) hx hb dX9_addTest_12 (by decide) ?_
  refine lv_isub hx hb dX9_addTest_13 ?_
  refine lv_topi (fun y6 ey6 => ?_)
  obtain rfl : y6 = 31 := ey6.trans (by decide)
  have hF7 := va_free (wc := []) hD hS hA [] rfl
  refine va_calli (va_runS (As := [.int 0, .int 0, .int 31]) (rest := [.ref h0]) ⟨hx, hb, hml, hown, hts⟩ (k488_in l hl9 dC dI z H4.size) (va_cwS 3 hts (gS q_375 q_376 q_60 q_374) rfl rfl rfl (by decide +kernel) ⟨Nat.le_of_ble_eq_true rfl, Nat.le_of_ble_eq_true rfl⟩) ⟨pc_blind, fun U hU hW => ⟨rfl, pc_mk hP hD hK hS hX hT [] [] rfl rfl rfl rfl hF7 hU hW⟩⟩ rfl rfl hl.1 rfl (lv_room (Nat.le_of_ble_eq_true rfl)) dX9_addTest_14 ⟨(Nat.le_of_ble_eq_true rfl), (Nat.le_of_ble_eq_true rfl)⟩) hS (fun q9 _ h9 => hF7 q9 h9) hF7 (fun r10 u9 t9 H9 L9 ht9 hvm9 hw9 hB9 hz9 hk9 hS => ?_)
  obtain ⟨hP, hD, hK⟩ := pq_join (wr := [(h2, .inr (0, [.int 0, .ref z.1, .int 0])), (h0, .inr (8, [.int 0, .ref h1, .ref o0, .ref h2, .ref o1, .int 0])), (h1, .inr (0, [.int 5, .ref h3, .int 5])), (h3, .inl (kc0, 10, .inr (.inr (.inr (.inr (va_up (va_up (va_up (va_up (va_up (fun _ => none) 0 (some h4)) 1 (some h5)) 2 (some h6)) 3 (some h7)) 4 (some h8))))))), (h4, .inr (7, [.int 105, .int 120, .int 0, .int (-1), .int 0, .int (-1)])), (h5, .inr (7, [.int 105, .int 120, .int 0, .int (-1), .int 0, .int (-1)])), (h6, .inr (7, [.int 105, .int 120, .int 0, .int (-1), .int 0, .int (-1)])), (h7, .inr (7, [.int 105, .int 120, .int 0, .int (-1), .int 0, .int (-1)])), (h8, .inr (7, [.int 105, .int 120, .int 0, .int (-1), .int 0, .int (-1)]))]) (tr := [(kc0, .object "java/lang/Object")]) (wz := [(h2, .inr (0, [.int 0, .ref z.1, .int 0])), (h0, .inr (8, [.int 0, .ref h1, .ref o0, .ref h2, .ref o1, .int 0])), (h1, .inr (0, [.int 5, .ref h3, .int 5])), (h3, .inl (kc0, 10, .inr (.inr (.inr (.inr (va_up (va_up (va_up (va_up (va_up (fun _ => none) 0 (some h4)) 1 (some h5)) 2 (some h6)) 3 (some h7)) 4 (some h8))))))), (h4, .inr (7, [.int 105, .int 120, .int 0, .int (-1), .int 0, .int (-1)])), (h5, .inr (7, [.int 105, .int 120, .int 0, .int (-1), .int 0, .int (-1)])), (h6, .inr (7, [.int 105, .int 120, .int 0, .int (-1), .int 0, .int (-1)])), (h7, .inr (7, [.int 105, .int 120, .int 0, .int (-1), .int 0, .int (-1)])), (h8, .inr (7, [.int 105, .int 120, .int 0, .int (-1), .int 0, .int (-1)]))]) (tz := [(kc0, .object "java/lang/Object")]) hP hD hK [] [0, 1, 2, 3, 4, 5, 6, 7, 8] [0] rfl rfl (by decide) (by decide) rfl hk9 hF7 hB9.1 ht9 hvm9 rfl rfl
  have hG : s.heap.size + 1 ≤ H9.size := Nat.le_trans hG hz9
  refine W.eq (g2 := F0 m 17 ls [.int 1, .ref h0]) (by rw [hw9]) ?_
  refine lv_if_ne (tgt := 24) hx hb dX9_addTest_17 (by decide) (fun _ => ?_) (fun cz => absurd cz (by decide))
  refine lv_iconst (v := 0) hx hb dX9_addTest_24 (by decide) ?_
  refine lv_iconst (v := 1) hx hb dX9_addTest_25 (by decide) ?_
  have hF11 := va_free (wc := [(h0, .inr (8, [.int 0, .ref h1, .ref o0, .ref h2, .ref o1, .int 0]))]) hD hS hA [1] rfl
  refine va_calli (va_runV (As := [.int 0, .int 1]) (rest := []) ⟨hx, hb, hml, hown, hts⟩ (k52_fails l hl9 dC dI z h0 h1 o0 h2 o1 H9.size) (cwV 2 hts (gV q_269 q_270 q_271 q_60 q_268) rfl rfl rfl (by decide +kernel) ⟨Nat.le_of_ble_eq_true rfl, Nat.le_of_ble_eq_true rfl⟩) ⟨pc_blind, va_recv hK hP (ci := 8) (q0 := 1) rfl rfl, fun U hU hW => ⟨rfl, pc_mk hP hD hK hS hX hT [1] [] rfl rfl rfl rfl hF11 hU hW⟩⟩ rfl rfl hl.1 rfl (lv_room (Nat.le_of_ble_eq_true rfl)) dX9_addTest_26 ⟨(Nat.le_of_ble_eq_true rfl), (Nat.le_of_ble_eq_true rfl)⟩) hS (fun q9 _ h9 => hF11 q9 h9) hF11 (fun r14 u13 t13 H13 L13 ht13 hvm13 hw13 hB13 hz13 hk13 hS => ?_)
  obtain ⟨hP, hD, hK⟩ := pq_join (wr := [(h2, .inr (0, [.int 0, .ref z.1, .int 0])), (h1, .inr (0, [.int 5, .ref h3, .int 5])), (h3, .inl (kc0, 10, .inr (.inr (.inr (.inr (va_up (va_up (va_up (va_up (va_up (fun _ => none) 0 (some h4)) 1 (some h5)) 2 (some h6)) 3 (some h7)) 4 (some h8))))))), (h4, .inr (7, [.int 105, .int 120, .int 0, .int (-1), .int 0, .int (-1)])), (h5, .inr (7, [.int 105, .int 120, .int 0, .int (-1), .int 0, .int (-1)])), (h6, .inr (7, [.int 105, .int 120, .int 0, .int (-1), .int 0, .int (-1)])), (h7, .inr (7, [.int 105, .int 120, .int 0, .int (-1), .int 0, .int (-1)])), (h8, .inr (7, [.int 105, .int 120, .int 0, .int (-1), .int 0, .int (-1)]))]) (tr := [(kc0, .object "java/lang/Object")]) (wz := [(h2, .inr (0, [.int 0, .ref z.1, .int 0])), (h1, .inr (0, [.int 5, .ref h3, .int 5])), (h3, .inl (kc0, 10, .inr (.inr (.inr (.inr (va_up (va_up (va_up (va_up (va_up (fun _ => none) 0 (some h4)) 1 (some h5)) 2 (some h6)) 3 (some h7)) 4 (some h8))))))), (h4, .inr (7, [.int 105, .int 120, .int 0, .int (-1), .int 0, .int (-1)])), (h5, .inr (7, [.int 105, .int 120, .int 0, .int (-1), .int 0, .int (-1)])), (h6, .inr (7, [.int 105, .int 120, .int 0, .int (-1), .int 0, .int (-1)])), (h7, .inr (7, [.int 105, .int 120, .int 0, .int (-1), .int 0, .int (-1)])), (h8, .inr (7, [.int 105, .int 120, .int 0, .int (-1), .int 0, .int (-1)])), (h0, .inr (8, [.int 0, .ref h1, .ref o0, .ref h2, .ref o1, .int 0]))]) (tz := [(kc0, .object "java/lang/Object")]) hP hD hK [1] [0, 2, 3, 4, 5, 6, 7, 8] [0] rfl rfl (by decide) (by decide) rfl hk13 hF11 hB13.1 ht13 hvm13 rfl rfl
  have hG : s.heap.size + 1 ≤ H13.size := Nat.le_trans hG hz13
  refine W.eq (g2 := F0 m 29 ls [.int 0]) (by rw [hw13]) ?_
  refine lv_if_ne (tgt := 57) hx hb dX9_addTest_29 (by decide) (fun cz => absurd (by decide) cz) (fun _ => ?_)
  refine lv_aload_n hx hb dX9_addTest_32 rfl (lv_at hl 0 rfl) ?_
  refine lv_aload_n hx hb dX9_addTest_33 rfl (lv_at hl 0 rfl) ?_
  refine va_get (D := (dC, dI)) (ci := 8) (v := .ref h2) (C := RX9) (T := TX9) (N := 6) hx hb hts in_X9 hown hK hP 8 rfl rfl 3 (by decide) (hts _ q_66) (fun _ h9 => h9) rfl dX9_addTest_34 ?_
  have hF15 := va_free (wc := [(h2, .inr (0, [.int 0, .ref z.1, .int 0]))]) hD hS hA [0] rfl
  refine va_calli (va_runV (As := []) (rest := [.ref h0]) ⟨hx, hb, hml, hown, hts⟩ (k9_size l hl9 dC dI z h2 H13.size 0 0) (cwV 0 hts (gV q_272 q_77 q_78 q_12 q_75) rfl rfl rfl (by decide +kernel) ⟨Nat.le_of_ble_eq_true rfl, Nat.le_of_ble_eq_true rfl⟩) ⟨pc_blind, va_recv hK hP (ci := 0) (q0 := 0) rfl rfl, fun U hU hW => ⟨rfl, pc_mk hP hD hK hS hX hT [0] [] rfl rfl rfl rfl hF15 hU hW⟩⟩ rfl rfl hl.1 rfl (lv_room (Nat.le_of_ble_eq_true rfl)) dX9_addTest_37 ⟨(Nat.le_of_ble_eq_true rfl), (Nat.le_of_ble_eq_true rfl)⟩) hS (fun q9 _ h9 => hF15 q9 h9) hF15 (fun r18 u17 t17 H17 L17 ht17 hvm17 hw17 hB17 hz17 hk17 hS => ?_)
  obtain ⟨hP, hD, hK⟩ := pq_join (wr := [(h1, .inr (0, [.int 5, .ref h3, .int 5])), (h3, .inl (kc0, 10, .inr (.inr (.inr (.inr (va_up (va_up (va_up (va_up (va_up (fun _ => none) 0 (some h4)) 1 (some h5)) 2 (some h6)) 3 (some h7)) 4 (some h8))))))), (h4, .inr (7, [.int 105, .int 120, .int 0, .int (-1), .int 0, .int (-1)])), (h5, .inr (7, [.int 105, .int 120, .int 0, .int (-1), .int 0, .int (-1)])), (h6, .inr (7, [.int 105, .int 120, .int 0, .int (-1), .int 0, .int (-1)])), (h7, .inr (7, [.int 105, .int 120, .int 0, .int (-1), .int 0, .int (-1)])), (h8, .inr (7, [.int 105, .int 120, .int 0, .int (-1), .int 0, .int (-1)])), (h0, .inr (8, [.int 0, .ref h1, .ref o0, .ref h2, .ref o1, .int 0]))]) (tr := [(kc0, .object "java/lang/Object")]) (wz := [(h1, .inr (0, [.int 5, .ref h3, .int 5])), (h3, .inl (kc0, 10, .inr (.inr (.inr (.inr (va_up (va_up (va_up (va_up (va_up (fun _ => none) 0 (some h4)) 1 (some h5)) 2 (some h6)) 3 (some h7)) 4 (some h8))))))), (h4, .inr (7, [.int 105, .int 120, .int 0, .int (-1), .int 0, .int (-1)])), (h5, .inr (7, [.int 105, .int 120, .int 0, .int (-1), .int 0, .int (-1)])), (h6, .inr (7, [.int 105, .int 120, .int 0, .int (-1), .int 0, .int (-1)])), (h7, .inr (7, [.int 105, .int 120, .int 0, .int (-1), .int 0, .int (-1)])), (h8, .inr (7, [.int 105, .int 120, .int 0, .int (-1), .int 0, .int (-1)])), (h0, .inr (8, [.int 0, .ref h1, .ref o0, .ref h2, .ref o1, .int 0])), (h2, .inr (0, [.int 0, .ref z.1, .int 0]))]) (tz := [(kc0, .object "java/lang/Object")]) hP hD hK [0] [1, 2, 3, 4, 5, 6, 7, 8] [0] rfl rfl (by decide) (by decide) rfl hk17 hF15 hB17.1 ht17 hvm17 rfl rfl
  have hG : s.heap.size + 1 ≤ H17.size := Nat.le_trans hG hz17
  refine W.eq (g2 := F0 m 40 ls [.int 0, .ref h0]) (by rw [hw17]) ?_
  refine lv_bipush (v := 8) hx hb dX9_addTest_40 (by decide) ?_
  refine lv_icmp_ne (tgt := 49) hx hb dX9_addTest_42 (by decide) (fun _ => ?_) (fun cz => absurd cz (by decide))
  refine lv_iconst (v := 0) hx hb dX9_addTest_49 (by decide) ?_
  refine lv_iconst (v := 2) hx hb dX9_addTest_50 (by decide) ?_
  have hF19 := va_free (wc := [(h0, .inr (8, [.int 0, .ref h1, .ref o0, .ref h2, .ref o1, .int 0]))]) hD hS hA [7] rfl
  refine va_calli (va_runV (As := [.int 0, .int 2]) (rest := []) ⟨hx, hb, hml, hown, hts⟩ (k53_fails l hl9 dC dI z h0 h1 o0 h2 o1 H17.size) (cwV 2 hts (gV q_269 q_270 q_271 q_60 q_268) rfl rfl rfl (by decide +kernel) ⟨Nat.le_of_ble_eq_true rfl, Nat.le_of_ble_eq_true rfl⟩) ⟨pc_blind, va_recv hK hP (ci := 8) (q0 := 7) rfl rfl, fun U hU hW => ⟨rfl, pc_mk hP hD hK hS hX hT [7] [] rfl rfl rfl rfl hF19 hU hW⟩⟩ rfl rfl hl.1 rfl (lv_room (Nat.le_of_ble_eq_true rfl)) dX9_addTest_51 ⟨(Nat.le_of_ble_eq_true rfl), (Nat.le_of_ble_eq_true rfl)⟩) hS (fun q9 _ h9 => hF19 q9 h9) hF19 (fun r22 u21 t21 H21 L21 ht21 hvm21 hw21 hB21 hz21 hk21 hS => ?_)
  obtain ⟨hP, hD, hK⟩ := pq_join (wr := [(h1, .inr (0, [.int 5, .ref h3, .int 5])), (h3, .inl (kc0, 10, .inr (.inr (.inr (.inr (va_up (va_up (va_up (va_up (va_up (fun _ => none) 0 (some h4)) 1 (some h5)) 2 (some h6)) 3 (some h7)) 4 (some h8))))))), (h4, .inr (7, [.int 105, .int 120, .int 0, .int (-1), .int 0, .int (-1)])), (h5, .inr (7, [.int 105, .int 120, .int 0, .int (-1), .int 0, .int (-1)])), (h6, .inr (7, [.int 105, .int 120, .int 0, .int (-1), .int 0, .int (-1)])), (h7, .inr (7, [.int 105, .int 120, .int 0, .int (-1), .int 0, .int (-1)])), (h8, .inr (7, [.int 105, .int 120, .int 0, .int (-1), .int 0, .int (-1)])), (h2, .inr (0, [.int 0, .ref z.1, .int 0]))]) (tr := [(kc0, .object "java/lang/Object")]) (wz := [(h1, .inr (0, [.int 5, .ref h3, .int 5])), (h3, .inl (kc0, 10, .inr (.inr (.inr (.inr (va_up (va_up (va_up (va_up (va_up (fun _ => none) 0 (some h4)) 1 (some h5)) 2 (some h6)) 3 (some h7)) 4 (some h8))))))), (h4, .inr (7, [.int 105, .int 120, .int 0, .int (-1), .int 0, .int (-1)])), (h5, .inr (7, [.int 105, .int 120, .int 0, .int (-1), .int 0, .int (-1)])), (h6, .inr (7, [.int 105, .int 120, .int 0, .int (-1), .int 0, .int (-1)])), (h7, .inr (7, [.int 105, .int 120, .int 0, .int (-1), .int 0, .int (-1)])), (h8, .inr (7, [.int 105, .int 120, .int 0, .int (-1), .int 0, .int (-1)])), (h2, .inr (0, [.int 0, .ref z.1, .int 0])), (h0, .inr (8, [.int 0, .ref h1, .ref o0, .ref h2, .ref o1, .int 0]))]) (tz := [(kc0, .object "java/lang/Object")]) hP hD hK [7] [0, 1, 2, 3, 4, 5, 6, 8] [0] rfl rfl (by decide) (by decide) rfl hk21 hF19 hB21.1 ht21 hvm21 rfl rfl
  have hG : s.heap.size + 1 ≤ H21.size := Nat.le_trans hG hz21
  refine W.eq (g2 := F0 m 54 ls [.int 0]) (by rw [hw21]) ?_
  refine lv_if_eq (tgt := 59) hx hb dX9_addTest_54 (by decide) (fun _ => ?_) (fun cz => absurd (by decide) cz)
  refine lv_aload_n hx hb dX9_addTest_59 rfl (lv_at hl 0 rfl) ?_
  refine va_get (D := (dC, dI)) (ci := 8) (v := .ref h2) (C := RX9) (T := TX9) (N := 6) hx hb hts in_X9 hown hK hP 8 rfl rfl 3 (by decide) (hts _ q_66) (fun _ h9 => h9) rfl dX9_addTest_60 ?_
  refine lv_iload_n hx hb dX9_addTest_63 rfl (lv_at hl 1 rfl) ?_
  have hF23 := va_free (wc := []) hD hS hA [] rfl
  refine va_callr (va_runS (As := [.int 0]) (rest := [.ref h2]) ⟨hx, hb, hml, hown, hts⟩ (k58_valueOf l hl9 dC dI z H21.size) (va_cwS 1 hts (gS q_295 q_296 q_297 q_294) rfl rfl rfl (by decide +kernel) ⟨Nat.le_of_ble_eq_true rfl, Nat.le_of_ble_eq_true rfl⟩) ⟨pc_blind, fun U hU hW => ⟨rfl, pc_mk hP hD hK hS hX hT [] [] rfl rfl rfl rfl hF23 hU hW⟩⟩ rfl rfl hl.1 rfl (lv_room (Nat.le_of_ble_eq_true rfl)) dX9_addTest_64 ⟨(Nat.le_of_ble_eq_true rfl), (Nat.le_of_ble_eq_true rfl)⟩) hS (fun q9 _ h9 => hF23 q9 h9) hF23 (fun u25 r26 t25 H25 L25 ht25 hvm25 hw25 hB25 hz25 hk25 hS => ?_)
  obtain ⟨hr25, hB25⟩ := hB25
  obtain ⟨hP, hD, hK⟩ := pq_join (wr := [(h1, .inr (0, [.int 5, .ref h3, .int 5])), (h3, .inl (kc0, 10, .inr (.inr (.inr (.inr (va_up (va_up (va_up (va_up (va_up (fun _ => none) 0 (some h4)) 1 (some h5)) 2 (some h6)) 3 (some h7)) 4 (some h8))))))), (h4, .inr (7, [.int 105, .int 120, .int 0, .int (-1), .int 0, .int (-1)])), (h5, .inr (7, [.int 105, .int 120, .int 0, .int (-1), .int 0, .int (-1)])), (h6, .inr (7, [.int 105, .int 120, .int 0, .int (-1), .int 0, .int (-1)])), (h7, .inr (7, [.int 105, .int 120, .int 0, .int (-1), .int 0, .int (-1)])), (h8, .inr (7, [.int 105, .int 120, .int 0, .int (-1), .int 0, .int (-1)])), (h2, .inr (0, [.int 0, .ref z.1, .int 0])), (h0, .inr (8, [.int 0, .ref h1, .ref o0, .ref h2, .ref o1, .int 0]))]) (tr := [(kc0, .object "java/lang/Object")]) (wz := [(h1, .inr (0, [.int 5, .ref h3, .int 5])), (h3, .inl (kc0, 10, .inr (.inr (.inr (.inr (va_up (va_up (va_up (va_up (va_up (fun _ => none) 0 (some h4)) 1 (some h5)) 2 (some h6)) 3 (some h7)) 4 (some h8))))))), (h4, .inr (7, [.int 105, .int 120, .int 0, .int (-1), .int 0, .int (-1)])), (h5, .inr (7, [.int 105, .int 120, .int 0, .int (-1), .int 0, .int (-1)])), (h6, .inr (7, [.int 105, .int 120, .int 0, .int (-1), .int 0, .int (-1)])), (h7, .inr (7, [.int 105, .int 120, .int 0, .int (-1), .int 0, .int (-1)])), (h8, .inr (7, [.int 105, .int 120, .int 0, .int (-1), .int 0, .int (-1)])), (h2, .inr (0, [.int 0, .ref z.1, .int 0])), (h0, .inr (8, [.int 0, .ref h1, .ref o0, .ref h2, .ref o1, .int 0]))]) (tz := [(kc0, .object "java/lang/Object")]) hP hD hK [] [0, 1, 2, 3, 4, 5, 6, 7, 8] [0] rfl rfl (by decide) (by decide) rfl hk25 hF23 hB25.1 ht25 hvm25 rfl rfl
  have hG : s.heap.size + 1 ≤ H25.size := Nat.le_trans hG hz25
  refine W.eq (g2 := F0 m 67 ls [.ref (z.2.2.1 128), .ref h2]) (by rw [hr25]) ?_
  have hF27 := va_free (wc := [(h2, .inr (0, [.int 0, .ref z.1, .int 0]))]) hD hS hA [7] rfl
  refine va_calli (va_runV (As := [.ref (z.2.2.1 128)]) (rest := []) ⟨hx, hb, hml, hown, hts⟩ (k490_add l hl9 dC dI z h2 H25.size) (cwV 1 hts (gV q_284 q_128 q_129 q_12 q_126) rfl rfl rfl (by decide +kernel) ⟨Nat.le_of_ble_eq_true rfl, Nat.le_of_ble_eq_true rfl⟩) ⟨pc_blind, va_recv hK hP (ci := 0) (q0 := 7) rfl rfl, fun U hU hW => ⟨rfl, pc_mk hP hD hK hS hX hT [7] [] rfl rfl rfl rfl hF27 hU hW⟩⟩ rfl rfl hl.1 rfl (lv_room (Nat.le_of_ble_eq_true rfl)) dX9_addTest_67 ⟨(Nat.le_of_ble_eq_true rfl), (Nat.le_of_ble_eq_true rfl)⟩) hS (fun q9 _ h9 => hF27 q9 h9) hF27 (fun r30 u29 t29 H29 L29 ht29 hvm29 hw29 hB29 hz29 hk29 hS => ?_)
  obtain ⟨a31, k32, hB29⟩ := hB29
  obtain ⟨hP, hD, hK⟩ := pq_join (wr := [(h1, .inr (0, [.int 5, .ref h3, .int 5])), (h3, .inl (kc0, 10, .inr (.inr (.inr (.inr (va_up (va_up (va_up (va_up (va_up (fun _ => none) 0 (some h4)) 1 (some h5)) 2 (some h6)) 3 (some h7)) 4 (some h8))))))), (h4, .inr (7, [.int 105, .int 120, .int 0, .int (-1), .int 0, .int (-1)])), (h5, .inr (7, [.int 105, .int 120, .int 0, .int (-1), .int 0, .int (-1)])), (h6, .inr (7, [.int 105, .int 120, .int 0, .int (-1), .int 0, .int (-1)])), (h7, .inr (7, [.int 105, .int 120, .int 0, .int (-1), .int 0, .int (-1)])), (h8, .inr (7, [.int 105, .int 120, .int 0, .int (-1), .int 0, .int (-1)])), (h0, .inr (8, [.int 0, .ref h1, .ref o0, .ref h2, .ref o1, .int 0]))]) (tr := [(kc0, .object "java/lang/Object")]) (wz := [(h1, .inr (0, [.int 5, .ref h3, .int 5])), (h3, .inl (kc0, 10, .inr (.inr (.inr (.inr (va_up (va_up (va_up (va_up (va_up (fun _ => none) 0 (some h4)) 1 (some h5)) 2 (some h6)) 3 (some h7)) 4 (some h8))))))), (h4, .inr (7, [.int 105, .int 120, .int 0, .int (-1), .int 0, .int (-1)])), (h5, .inr (7, [.int 105, .int 120, .int 0, .int (-1), .int 0, .int (-1)])), (h6, .inr (7, [.int 105, .int 120, .int 0, .int (-1), .int 0, .int (-1)])), (h7, .inr (7, [.int 105, .int 120, .int 0, .int (-1), .int 0, .int (-1)])), (h8, .inr (7, [.int 105, .int 120, .int 0, .int (-1), .int 0, .int (-1)])), (h0, .inr (8, [.int 0, .ref h1, .ref o0, .ref h2, .ref o1, .int 0])), (h2, .inr (0, [.int 1, .ref a31, .int 1])), (a31, .inl (k32, 10, .inr (.inr (.inr (.inr (va_up (fun _ => none) 0 (some (z.2.2.1 128))))))))]) (tz := [(kc0, .object "java/lang/Object"), (k32, .object "java/lang/Object")]) hP hD hK [7] [0, 1, 2, 3, 4, 5, 6, 8] [0] rfl rfl (by decide) (by decide) rfl hk29 hF27 hB29.1 ht29 hvm29 rfl rfl
  have hG : s.heap.size + 2 ≤ H29.size := va_gr (g := 1) (g1 := 1) hG (by rw [← ht29]; exact hB29.2)
  refine W.eq (g2 := F0 m 70 ls [.int 1]) (by rw [hw29]) ?_
  refine W.widen (k := 2) (n := 14) (by decide) (by decide) ?_
  refine lv_pop hx hb dX9_addTest_70 rfl ?_
  refine lv_aload_n hx hb dX9_addTest_71 rfl (lv_at hl 0 rfl) ?_
  refine va_get (D := (dC, dI)) (ci := 8) (v := .ref h2) (C := RX9) (T := TX9) (N := 6) hx hb hts in_X9 hown hK hP 7 rfl rfl 3 (by decide) (hts _ q_66) (fun _ h9 => h9) rfl dX9_addTest_72 ?_
  have hF33 := va_free (wc := [(h2, .inr (0, [.int 1, .ref a31, .int 1]))]) hD hS hA [8] rfl
  refine va_calli (va_runV (As := []) (rest := []) ⟨hx, hb, hml, hown, hts⟩ (k20_size l hl9 dC dI z h2 a31 H29.size 1 1) (cwV 0 hts (gV q_272 q_77 q_78 q_12 q_75) rfl rfl rfl (by decide +kernel) ⟨Nat.le_of_ble_eq_true rfl, Nat.le_of_ble_eq_true rfl⟩) ⟨pc_blind, va_recv hK hP (ci := 0) (q0 := 8) rfl rfl, fun U hU hW => ⟨rfl, pc_mk hP hD hK hS hX hT [8] [] rfl rfl rfl rfl hF33 hU hW⟩⟩ rfl rfl hl.1 rfl (lv_room (Nat.le_of_ble_eq_true rfl)) dX9_addTest_75 ⟨(Nat.le_of_ble_eq_true rfl), (Nat.le_of_ble_eq_true rfl)⟩) hS (fun q9 _ h9 => hF33 q9 h9) hF33 (fun r36 u35 t35 H35 L35 ht35 hvm35 hw35 hB35 hz35 hk35 hS => ?_)
  obtain ⟨hP, hD, hK⟩ := pq_join (wr := [(h1, .inr (0, [.int 5, .ref h3, .int 5])), (h3, .inl (kc0, 10, .inr (.inr (.inr (.inr (va_up (va_up (va_up (va_up (va_up (fun _ => none) 0 (some h4)) 1 (some h5)) 2 (some h6)) 3 (some h7)) 4 (some h8))))))), (h4, .inr (7, [.int 105, .int 120, .int 0, .int (-1), .int 0, .int (-1)])), (h5, .inr (7, [.int 105, .int 120, .int 0, .int (-1), .int 0, .int (-1)])), (h6, .inr (7, [.int 105, .int 120, .int 0, .int (-1), .int 0, .int (-1)])), (h7, .inr (7, [.int 105, .int 120, .int 0, .int (-1), .int 0, .int (-1)])), (h8, .inr (7, [.int 105, .int 120, .int 0, .int (-1), .int 0, .int (-1)])), (h0, .inr (8, [.int 0, .ref h1, .ref o0, .ref h2, .ref o1, .int 0])), (a31, .inl (k32, 10, .inr (.inr (.inr (.inr (va_up (fun _ => none) 0 (some (z.2.2.1 128))))))))]) (tr := [(kc0, .object "java/lang/Object"), (k32, .object "java/lang/Object")]) (wz := [(h1, .inr (0, [.int 5, .ref h3, .int 5])), (h3, .inl (kc0, 10, .inr (.inr (.inr (.inr (va_up (va_up (va_up (va_up (va_up (fun _ => none) 0 (some h4)) 1 (some h5)) 2 (some h6)) 3 (some h7)) 4 (some h8))))))), (h4, .inr (7, [.int 105, .int 120, .int 0, .int (-1), .int 0, .int (-1)])), (h5, .inr (7, [.int 105, .int 120, .int 0, .int (-1), .int 0, .int (-1)])), (h6, .inr (7, [.int 105, .int 120, .int 0, .int (-1), .int 0, .int (-1)])), (h7, .inr (7, [.int 105, .int 120, .int 0, .int (-1), .int 0, .int (-1)])), (h8, .inr (7, [.int 105, .int 120, .int 0, .int (-1), .int 0, .int (-1)])), (h0, .inr (8, [.int 0, .ref h1, .ref o0, .ref h2, .ref o1, .int 0])), (a31, .inl (k32, 10, .inr (.inr (.inr (.inr (va_up (fun _ => none) 0 (some (z.2.2.1 128)))))))), (h2, .inr (0, [.int 1, .ref a31, .int 1]))]) (tz := [(kc0, .object "java/lang/Object"), (k32, .object "java/lang/Object")]) hP hD hK [8] [0, 1, 2, 3, 4, 5, 6, 7, 9] [0, 1] rfl rfl (by decide) (by decide) rfl hk35 hF33 hB35.1 ht35 hvm35 rfl rfl
  have hG : s.heap.size + 2 ≤ H35.size := Nat.le_trans hG hz35
  refine W.eq (g2 := F0 m 78 ls [.int 1]) (by rw [hw35]) ?_
  exact W.iret (v := 1) hx hb hr (fun t9 ht9 hW9 => ⟨⟨1, (), rfl, rfl, ⟨a31, k32, ⟨pq_mk (wc := [(h0, .inr (8, [.int 0, .ref h1, .ref o0, .ref h2, .ref o1, .int 0])), (h1, .inr (0, [.int 5, .ref h3, .int 5])), (h2, .inr (0, [.int 1, .ref a31, .int 1])), (h3, .inl (kc0, 10, .inr (.inr (.inr (.inr (va_up (va_up (va_up (va_up (va_up (fun _ => none) 0 (some h4)) 1 (some h5)) 2 (some h6)) 3 (some h7)) 4 (some h8))))))), (h4, .inr (7, [.int 105, .int 120, .int 0, .int (-1), .int 0, .int (-1)])), (h5, .inr (7, [.int 105, .int 120, .int 0, .int (-1), .int 0, .int (-1)])), (h6, .inr (7, [.int 105, .int 120, .int 0, .int (-1), .int 0, .int (-1)])), (h7, .inr (7, [.int 105, .int 120, .int 0, .int (-1), .int 0, .int (-1)])), (h8, .inr (7, [.int 105, .int 120, .int 0, .int (-1), .int 0, .int (-1)])), (a31, .inl (k32, 10, .inr (.inr (.inr (.inr (va_up (fun _ => none) 0 (some (z.2.2.1 128))))))))]) (tc := [(kc0, .object "java/lang/Object"), (k32, .object "java/lang/Object")]) hP hD hK [7, 0, 9, 1, 2, 3, 4, 5, 6, 8] [0, 1] rfl rfl rfl rfl ht9 hW9, by rw [ht9]; exact Nat.le_trans (Nat.add_le_add_left (Nat.le_of_ble_eq_true rfl) _) hG⟩⟩⟩, hS.F ht9⟩) hS.2.2 dX9_addTest_78

set_option maxHeartbeats 4000000 in
set_option maxRecDepth 100000 in
theorem k492_rowCount (l : Launch) (hl9 : l.stackTraces = false) (dC : Nat → ClassId) (dI : Nat → Nat → Nat) (z : XZ) (h0 h1 h2 : Nat) (o0 o1 o2 o3 o4 : Nat) (sz : Nat) : Met l yX4_rowCount (.code yX4_rowCount cX4_rowCount 1 (some .int) :: wsL_law) ({ frames := 1, cells := 0, slots := 0, locals := 20 }) (va_Pc [.ref h0] (PC (dC, dI) [(h0, .inr (4, [.ref h1, .ref o0, .int 1])), (h1, .inr (2, [.ref o1, .ref h2, .ref o2, .ref o3])), (h2, .inr (0, [.int 5, .ref o4, .int 5]))] [] sz z)) (va_Qi (fun (r : Int32) (_ : Unit) => r = 32) (fun (_ : Unit) (t : State) => PG (dC, dI) [(h0, .inr (4, [.ref h1, .ref o0, .int 1])), (h1, .inr (2, [.ref o1, .ref h2, .ref o2, .ref o3])), (h2, .inr (0, [.int 5, .ref o4, .int 5]))] [] (va_A [(h0, .inr (4, [.ref h1, .ref o0, .int 1])), (h1, .inr (2, [.ref o1, .ref h2, .ref o2, .ref o3])), (h2, .inr (0, [.int 5, .ref o4, .int 5]))] sz) sz 0 t) (va_A [(h0, .inr (4, [.ref h1, .ref o0, .int 1])), (h1, .inr (2, [.ref o1, .ref h2, .ref o2, .ref o3])), (h2, .inr (0, [.int 5, .ref o4, .int 5]))] sz)) 0 0 (va_A [(h0, .inr (4, [.ref h1, .ref o0, .int 1])), (h1, .inr (2, [.ref o1, .ref h2, .ref o2, .ref o3])), (h2, .inr (0, [.int 5, .ref o4, .int 5]))] sz) := by
  refine Met.ofW (cc := cX4_rowCount) (maxL := 1) (ret := (some .int)) (by decide) rfl ?_
  intro p e s m args below meth c s₁ B hml hv
  obtain ⟨rfl, hsz, hP, hK, hD0, hX, hT⟩ := hv
  have hx := B.exec
  have hb := B.bytes
  have hr := B.returns
  have hts0 := atoms_spec (ws := .code yX4_rowCount cX4_rowCount 1 (some .int) :: wsL_law) B.pre
  have hts := xTail hts0
  have hown : s.vm.findClass RX4 = some m.cls := findClass_of_methodNamed B.named
  have hlocks := B.notSynchronized
  subst hsz
  have hD := hD0.self (sz := s.heap.size)
  generalize hAe : va_A [(h0, .inr (4, [.ref h1, .ref o0, .int 1])), (h1, .inr (2, [.ref o1, .ref h2, .ref o2, .ref o3])), (h2, .inr (0, [.int 5, .ref o4, .int 5]))] s.heap.size = A at hD hX ⊢
  have hA : ∀ q : Nat, s.heap.size ≤ q → A q := fun q h => by rw [← hAe]; exact Or.inr h
  have hS : va_S A s.heap s.heap [] := va_S.rf
  have hG : s.heap.size + 0 ≤ s.heap.size := Nat.le_refl _
  have hl := lv_entry ([.ref h0]) (n := 1) (Nat.le_of_ble_eq_true rfl)
  rw [lg_entry_eq]
  generalize (lg_sl ([.ref h0]) ++ List.replicate (1 - (lg_sl ([.ref h0])).length) Slot.unset).toArray = ls at hl ⊢
  have hl : lv_has ls 1 [(0, .ref h0)] := hl
  refine lv_iconst (v := 1) hx hb dX4_rowCount_0 (by decide) ?_
  refine lv_aload_n hx hb dX4_rowCount_1 rfl (lv_at hl 0 rfl) ?_
  refine va_get (D := (dC, dI)) (ci := 4) (v := .ref h1) (C := RX4) (T := TX4) (N := 3) hx hb hts in_X4 hown hK hP 0 rfl rfl 0 (by decide) (hts _ q_50) (fun _ h9 => h9) rfl dX4_rowCount_2 ?_
  refine va_get (D := (dC, dI)) (ci := 2) (v := .ref h2) (C := RX0) (T := TX0) (N := 4) hx hb hts in_X0 hown hK hP 1 rfl rfl 1 (by decide) (hts _ q_347) (fun _ h9 => h9) rfl dX4_rowCount_5 ?_
  have hF1 := va_free (wc := [(h2, .inr (0, [.int 5, .ref o4, .int 5]))]) hD hS hA [2] rfl
  refine va_calli (va_runV (As := []) (rest := [.int 1]) ⟨hx, hb, hml, hown, hts⟩ (k20_size l hl9 dC dI z h2 o4 s.heap.size 5 5) (cwV 0 hts (gV q_348 q_77 q_78 q_12 q_75) rfl rfl rfl (by decide +kernel) ⟨Nat.le_of_ble_eq_true rfl, Nat.le_of_ble_eq_true rfl⟩) ⟨pc_blind, va_recv hK hP (ci := 0) (q0 := 2) rfl rfl, fun U hU hW => ⟨rfl, pc_mk hP hD hK hS hX hT [2] [] rfl rfl rfl rfl hF1 hU hW⟩⟩ rfl rfl hl.1 rfl (lv_room (Nat.le_of_ble_eq_true rfl)) dX4_rowCount_8 ⟨(Nat.le_of_ble_eq_true rfl), (Nat.le_of_ble_eq_true rfl)⟩) hS (fun q9 _ h9 => hF1 q9 h9) hF1 (fun r4 u3 t3 H3 L3 ht3 hvm3 hw3 hB3 hz3 hk3 hS => ?_)
  obtain ⟨hP, hD, hK⟩ := pq_join (wr := [(h0, .inr (4, [.ref h1, .ref o0, .int 1])), (h1, .inr (2, [.ref o1, .ref h2, .ref o2, .ref o3]))]) (tr := []) (wz := [(h0, .inr (4, [.ref h1, .ref o0, .int 1])), (h1, .inr (2, [.ref o1, .ref h2, .ref o2, .ref o3])), (h2, .inr (0, [.int 5, .ref o4, .int 5]))]) (tz := []) hP hD hK [2] [0, 1] [] rfl rfl (by decide) (by decide) rfl hk3 hF1 hB3.1 ht3 hvm3 rfl rfl
  have hG : s.heap.size + 0 ≤ H3.size := Nat.le_trans hG hz3
  refine W.eq (g2 := F0 m 11 ls [.int 5, .int 1]) (by rw [hw3]) ?_
  refine lv_ishl hx hb dX4_rowCount_11 ?_
  refine lv_topi (fun y5 ey5 => ?_)
  obtain rfl : y5 = 32 := ey5.trans (by decide)
  exact W.iret (v := 32) hx hb hr (fun t9 ht9 hW9 => ⟨⟨32, (), rfl, rfl, ⟨pq_mk (wc := [(h0, .inr (4, [.ref h1, .ref o0, .int 1])), (h1, .inr (2, [.ref o1, .ref h2, .ref o2, .ref o3])), (h2, .inr (0, [.int 5, .ref o4, .int 5]))]) (tc := []) hP hD hK [0, 1, 2] [] rfl rfl rfl rfl ht9 hW9, by rw [ht9]; exact Nat.le_trans (Nat.add_le_add_left (Nat.le_of_ble_eq_true rfl) _) hG⟩⟩, hS.F ht9⟩) hS.2.2 dX4_rowCount_12

set_option maxHeartbeats 4000000 in
set_option maxRecDepth 100000 in
theorem k493_requireRow (l : Launch) (hl9 : l.stackTraces = false) (dC : Nat → ClassId) (dI : Nat → Nat → Nat) (z : XZ) (h0 h1 h2 h3 : Nat) (o0 o1 o2 o3 o4 o5 : Nat) (sz : Nat) : Met l yX6_requireRow (.code yX6_requireRow cX6_requireRow 2 none :: wsL_law) ({ frames := 2, cells := 0, slots := 0, locals := 40 }) (va_Pc [.ref h0, .int 0] (PC (dC, dI) [(h0, .inr (6, [.ref h1, .ref o0, .ref h2])), (h1, .inr (2, [.ref o1, .ref h3, .ref o2, .ref o3])), (h2, .inr (4, [.ref h1, .ref o4, .int 1])), (h3, .inr (0, [.int 5, .ref o5, .int 5]))] [] sz z)) (va_Qv (fun (_ : Unit) => True) (fun (_ : Unit) (t : State) => PG (dC, dI) [(h0, .inr (6, [.ref h1, .ref o0, .ref h2])), (h1, .inr (2, [.ref o1, .ref h3, .ref o2, .ref o3])), (h2, .inr (4, [.ref h1, .ref o4, .int 1])), (h3, .inr (0, [.int 5, .ref o5, .int 5]))] [] (va_A [(h0, .inr (6, [.ref h1, .ref o0, .ref h2])), (h1, .inr (2, [.ref o1, .ref h3, .ref o2, .ref o3])), (h2, .inr (4, [.ref h1, .ref o4, .int 1])), (h3, .inr (0, [.int 5, .ref o5, .int 5]))] sz) sz 0 t) (va_A [(h0, .inr (6, [.ref h1, .ref o0, .ref h2])), (h1, .inr (2, [.ref o1, .ref h3, .ref o2, .ref o3])), (h2, .inr (4, [.ref h1, .ref o4, .int 1])), (h3, .inr (0, [.int 5, .ref o5, .int 5]))] sz)) 0 0 (va_A [(h0, .inr (6, [.ref h1, .ref o0, .ref h2])), (h1, .inr (2, [.ref o1, .ref h3, .ref o2, .ref o3])), (h2, .inr (4, [.ref h1, .ref o4, .int 1])), (h3, .inr (0, [.int 5, .ref o5, .int 5]))] sz) := by
  refine Met.ofW (cc := cX6_requireRow) (maxL := 2) (ret := none) (by decide) rfl ?_
  intro p e s m args below meth c s₁ B hml hv
  obtain ⟨rfl, hsz, hP, hK, hD0, hX, hT⟩ := hv
  have hx := B.exec
  have hb := B.bytes
  have hr := B.returns
  have hts0 := atoms_spec (ws := .code yX6_requireRow cX6_requireRow 2 none :: wsL_law) B.pre
  have hts := xTail hts0
  have hown : s.vm.findClass RX6 = some m.cls := findClass_of_methodNamed B.named
  have hlocks := B.notSynchronized
  subst hsz
  have hD := hD0.self (sz := s.heap.size)
  generalize hAe : va_A [(h0, .inr (6, [.ref h1, .ref o0, .ref h2])), (h1, .inr (2, [.ref o1, .ref h3, .ref o2, .ref o3])), (h2, .inr (4, [.ref h1, .ref o4, .int 1])), (h3, .inr (0, [.int 5, .ref o5, .int 5]))] s.heap.size = A at hD hX ⊢
  have hA : ∀ q : Nat, s.heap.size ≤ q → A q := fun q h => by rw [← hAe]; exact Or.inr h
  have hS : va_S A s.heap s.heap [] := va_S.rf
  have hG : s.heap.size + 0 ≤ s.heap.size := Nat.le_refl _
  have hl := lv_entry ([.ref h0, .int 0]) (n := 2) (Nat.le_of_ble_eq_true rfl)
  rw [lg_entry_eq]
  generalize (lg_sl ([.ref h0, .int 0]) ++ List.replicate (2 - (lg_sl ([.ref h0, .int 0])).length) Slot.unset).toArray = ls at hl ⊢
  have hl : lv_has ls 2 [(0, .ref h0), (1, .int 0)] := hl
  refine lv_iload_n hx hb dX6_requireRow_0 rfl (lv_at hl 1 rfl) ?_
  refine lv_if_lt (tgt := 15) hx hb dX6_requireRow_1 (by decide) (fun cz => absurd cz (by decide)) (fun _ => ?_)
  refine lv_iload_n hx hb dX6_requireRow_4 rfl (lv_at hl 1 rfl) ?_
  refine lv_aload_n hx hb dX6_requireRow_5 rfl (lv_at hl 0 rfl) ?_
  refine va_get (D := (dC, dI)) (ci := 6) (v := .ref h2) (C := RX6) (T := TX6) (N := 3) hx hb hts in_X6 hown hK hP 0 rfl rfl 2 (by decide) (hts _ q_54) (fun _ h9 => h9) rfl dX6_requireRow_6 ?_
  have hF1 := va_free (wc := [(h2, .inr (4, [.ref h1, .ref o4, .int 1])), (h1, .inr (2, [.ref o1, .ref h3, .ref o2, .ref o3])), (h3, .inr (0, [.int 5, .ref o5, .int 5]))]) hD hS hA [2, 1, 3] rfl
  refine va_calli (va_runV (As := []) (rest := [.int 0]) ⟨hx, hb, hml, hown, hts⟩ (k492_rowCount l hl9 dC dI z h2 h1 h3 o4 o1 o2 o3 o5 s.heap.size) (cwV 0 hts (gV q_350 q_351 q_352 q_46 q_349) rfl rfl rfl (by decide +kernel) ⟨Nat.le_of_ble_eq_true rfl, Nat.le_of_ble_eq_true rfl⟩) ⟨pc_blind, va_recv hK hP (ci := 4) (q0 := 2) rfl rfl, fun U hU hW => ⟨rfl, pc_mk hP hD hK hS hX hT [2, 1, 3] [] rfl rfl rfl rfl hF1 hU hW⟩⟩ rfl rfl hl.1 rfl (lv_room (Nat.le_of_ble_eq_true rfl)) dX6_requireRow_9 ⟨(Nat.le_of_ble_eq_true rfl), (Nat.le_of_ble_eq_true rfl)⟩) hS (fun q9 _ h9 => hF1 q9 h9) hF1 (fun r4 u3 t3 H3 L3 ht3 hvm3 hw3 hB3 hz3 hk3 hS => ?_)
  obtain ⟨hP, hD, hK⟩ := pq_join (wr := [(h0, .inr (6, [.ref h1, .ref o0, .ref h2]))]) (tr := []) (wz := [(h0, .inr (6, [.ref h1, .ref o0, .ref h2])), (h2, .inr (4, [.ref h1, .ref o4, .int 1])), (h1, .inr (2, [.ref o1, .ref h3, .ref o2, .ref o3])), (h3, .inr (0, [.int 5, .ref o5, .int 5]))]) (tz := []) hP hD hK [2, 1, 3] [0] [] rfl rfl (by decide) (by decide) rfl hk3 hF1 hB3.1 ht3 hvm3 rfl rfl
  have hG : s.heap.size + 0 ≤ H3.size := Nat.le_trans hG hz3
  refine W.eq (g2 := F0 m 12 ls [.int 32, .int 0]) (by rw [hw3]) ?_
  refine lv_icmp_lt (tgt := 26) hx hb dX6_requireRow_12 (by decide) (fun _ => ?_) (fun cz => absurd (by decide) cz)
  exact W.vret hx hb hr (fun t9 ht9 hW9 => ⟨⟨(), rfl, trivial, ⟨pq_mk (wc := [(h0, .inr (6, [.ref h1, .ref o0, .ref h2])), (h1, .inr (2, [.ref o1, .ref h3, .ref o2, .ref o3])), (h2, .inr (4, [.ref h1, .ref o4, .int 1])), (h3, .inr (0, [.int 5, .ref o5, .int 5]))]) (tc := []) hP hD hK [0, 2, 1, 3] [] rfl rfl rfl rfl ht9 hW9, by rw [ht9]; exact Nat.le_trans (Nat.add_le_add_left (Nat.le_of_ble_eq_true rfl) _) hG⟩⟩, hS.F ht9⟩) hS.2.2 dX6_requireRow_26

set_option maxHeartbeats 4000000 in
set_option maxRecDepth 100000 in
theorem k494_keepTest (l : Launch) (hl9 : l.stackTraces = false) (dC : Nat → ClassId) (dI : Nat → Nat → Nat) (z : XZ) (h0 h1 : Nat) (o0 : Nat) (sz : Nat) (kc0 : ClassId) : Met l yX4_keepTest (.code yX4_keepTest cX4_keepTest 2 none :: wsL_law) ({ frames := 0, cells := 0, slots := 0, locals := 0 }) (va_Pc [.ref h0, .int 0] (PC (dC, dI) [(h0, .inr (4, [.ref o0, .ref h1, .int 1])), (h1, .inl (kc0, 8, .inl (upd (fun _ => 0) 0 0)))] [(kc0, .int)] sz z)) (va_Qv (fun (_ : Unit) => True) (fun (_ : Unit) (t : State) => PG (dC, dI) [(h0, .inr (4, [.ref o0, .ref h1, .int 2])), (h1, .inl (kc0, 8, .inl (upd (upd (fun _ => 0) 0 0) 1 0)))] [(kc0, .int)] (va_A [(h0, .inr (4, [.ref o0, .ref h1, .int 1])), (h1, .inl (kc0, 8, .inl (upd (fun _ => 0) 0 0)))] sz) sz 0 t) (va_A [(h0, .inr (4, [.ref o0, .ref h1, .int 1])), (h1, .inl (kc0, 8, .inl (upd (fun _ => 0) 0 0)))] sz)) 0 0 (va_A [(h0, .inr (4, [.ref o0, .ref h1, .int 1])), (h1, .inl (kc0, 8, .inl (upd (fun _ => 0) 0 0)))] sz) := by
  refine Met.ofW (cc := cX4_keepTest) (maxL := 2) (ret := none) (by decide) rfl ?_
  intro p e s m args below meth c s₁ B hml hv
  obtain ⟨rfl, hsz, hP, hK, hD0, hX, hT⟩ := hv
  have hx := B.exec
  have hb := B.bytes
  have hr := B.returns
  have hts0 := atoms_spec (ws := .code yX4_keepTest cX4_keepTest 2 none :: wsL_law) B.pre
  have hts := xTail hts0
  have hown : s.vm.findClass RX4 = some m.cls := findClass_of_methodNamed B.named
  have hlocks := B.notSynchronized
  subst hsz
  have hD := hD0.self (sz := s.heap.size)
  generalize hAe : va_A [(h0, .inr (4, [.ref o0, .ref h1, .int 1])), (h1, .inl (kc0, 8, .inl (upd (fun _ => 0) 0 0)))] s.heap.size = A at hD hX ⊢
  have hA : ∀ q : Nat, s.heap.size ≤ q → A q := fun q h => by rw [← hAe]; exact Or.inr h
  have hS : va_S A s.heap s.heap [] := va_S.rf
  have hG : s.heap.size + 0 ≤ s.heap.size := Nat.le_refl _
  have hl := lv_entry ([.ref h0, .int 0]) (n := 2) (Nat.le_of_ble_eq_true rfl)
  rw [lg_entry_eq]
  generalize (lg_sl ([.ref h0, .int 0]) ++ List.replicate (2 - (lg_sl ([.ref h0, .int 0])).length) Slot.unset).toArray = ls at hl ⊢
  have hl : lv_has ls 2 [(0, .ref h0), (1, .int 0)] := hl
  refine lv_aload_n hx hb dX4_keepTest_0 rfl (lv_at hl 0 rfl) ?_
  refine va_get (D := (dC, dI)) (ci := 4) (v := .int 1) (C := RX4) (T := TX4) (N := 3) hx hb hts in_X4 hown hK hP 0 rfl rfl 2 (by decide) (hts _ q_358) (fun _ h9 => h9) rfl dX4_keepTest_1 ?_
  refine lv_aload_n hx hb dX4_keepTest_4 rfl (lv_at hl 0 rfl) ?_
  refine va_get (D := (dC, dI)) (ci := 4) (v := .ref h1) (C := RX4) (T := TX4) (N := 3) hx hb hts in_X4 hown hK hP 0 rfl rfl 1 (by decide) (hts _ q_49) (fun _ h9 => h9) rfl dX4_keepTest_5 ?_
  refine va_alen hx hb hK hP 1 0 rfl rfl (v := 8) rfl dX4_keepTest_8 ?_
  refine lv_icmp_ge (tgt := 32) hx hb dX4_keepTest_9 (by decide) (fun cz => absurd cz (by decide)) (fun _ => ?_)
  refine lv_aload_n hx hb dX4_keepTest_12 rfl (lv_at hl 0 rfl) ?_
  refine va_get (D := (dC, dI)) (ci := 4) (v := .ref h1) (C := RX4) (T := TX4) (N := 3) hx hb hts in_X4 hown hK hP 0 rfl rfl 1 (by decide) (hts _ q_49) (fun _ h9 => h9) rfl dX4_keepTest_13 ?_
  refine lv_aload_n hx hb dX4_keepTest_16 rfl (lv_at hl 0 rfl) ?_
  refine va_get (D := (dC, dI)) (ci := 4) (v := .int 1) (C := RX4) (T := TX4) (N := 3) hx hb hts in_X4 hown hK hP 0 rfl rfl 2 (by decide) (hts _ q_358) (fun _ h9 => h9) rfl dX4_keepTest_17 ?_
  refine lv_iload_n hx hb dX4_keepTest_20 rfl (lv_at hl 1 rfl) ?_
  refine va_iast hx hb hK hP hD (va_Sre hS) 1 0 rfl rfl (i := 1) (by unfold vp_in; decide) dX4_keepTest_21 (fun H1 _ hP hD hS' => ?_)
  have hG : s.heap.size + 0 ≤ H1.size := Nat.le_trans hG hS'.1
  have hS := va_Str hS hS'
  have hP : va_P (dC, dI) xCl [(h0, .inr (4, [.ref o0, .ref h1, .int 1])), (h1, .inl (kc0, 8, .inl (upd (upd (fun _ => 0) 0 0) 1 0)))] H1 := hP
  have hD : va_D A [(h0, .inr (4, [.ref o0, .ref h1, .int 1])), (h1, .inl (kc0, 8, .inl (upd (upd (fun _ => 0) 0 0) 1 0)))] := hD
  refine lv_aload_n hx hb dX4_keepTest_22 rfl (lv_at hl 0 rfl) ?_
  refine lv_dup hx hb dX4_keepTest_23 rfl ?_
  refine va_get (D := (dC, dI)) (ci := 4) (v := .int 1) (C := RX4) (T := TX4) (N := 3) hx hb hts in_X4 hown hK hP 0 rfl rfl 2 (by decide) (hts _ q_358) (fun _ h9 => h9) rfl dX4_keepTest_24 ?_
  refine lv_iconst (v := 1) hx hb dX4_keepTest_27 (by decide) ?_
  refine lv_iadd hx hb dX4_keepTest_28 ?_
  refine lv_topi (fun y2 ey2 => ?_)
  obtain rfl : y2 = 2 := ey2.trans (by decide)
  refine va_put (D := (dC, dI)) (ci := 4) (v := .int 2) (ty := .int) (C := RX4) (T := TX4) (N := 3) hx hb hts in_X4 tyX4 tyX4_ok nmX4 hown hK hP hD (va_Sre hS) 0 rfl rfl 2 (by decide) (hts _ q_358) (fun _ h9 => h9) rfl (by decide +kernel) rfl rfl (Nat.le_of_ble_eq_true rfl) dX4_keepTest_29 (fun H3 _ hP hD hS' => ?_)
  have hG : s.heap.size + 0 ≤ H3.size := Nat.le_trans hG hS'.1
  have hS := va_Str hS hS'
  have hP : va_P (dC, dI) xCl [(h0, .inr (4, [.ref o0, .ref h1, .int 2])), (h1, .inl (kc0, 8, .inl (upd (upd (fun _ => 0) 0 0) 1 0)))] H3 := hP
  have hD : va_D A [(h0, .inr (4, [.ref o0, .ref h1, .int 2])), (h1, .inl (kc0, 8, .inl (upd (upd (fun _ => 0) 0 0) 1 0)))] := hD
  exact W.vret hx hb hr (fun t9 ht9 hW9 => ⟨⟨(), rfl, trivial, ⟨pq_mk (wc := [(h0, .inr (4, [.ref o0, .ref h1, .int 2])), (h1, .inl (kc0, 8, .inl (upd (upd (fun _ => 0) 0 0) 1 0)))]) (tc := [(kc0, .int)]) hP hD hK [0, 1] [0] rfl rfl rfl rfl ht9 hW9, by rw [ht9]; exact Nat.le_trans (Nat.add_le_add_left (Nat.le_of_ble_eq_true rfl) _) hG⟩⟩, hS.F ht9⟩) hS.2.2 dX4_keepTest_32

set_option maxHeartbeats 4000000 in
set_option maxRecDepth 100000 in
theorem k495_addTest (l : Launch) (hl9 : l.stackTraces = false) (dC : Nat → ClassId) (dI : Nat → Nat → Nat) (z : XZ) (h0 h1 h2 h3 h4 : Nat) (o0 o1 o2 o3 o4 : Nat) (sz : Nat) (kc0 : ClassId) : Met l yX6_addTest (.code yX6_addTest cX6_addTest 2 (some .int) :: wsL_law) ({ frames := 3, cells := 0, slots := 0, locals := 61 }) (va_Pc [.ref h0, .int 0] (PC (dC, dI) [(h0, .inr (6, [.ref h1, .ref o0, .ref h2])), (h1, .inr (2, [.ref o1, .ref h3, .ref o2, .ref o3])), (h2, .inr (4, [.ref h1, .ref h4, .int 1])), (h3, .inr (0, [.int 5, .ref o4, .int 5])), (h4, .inl (kc0, 8, .inl (upd (fun _ => 0) 0 0)))] [(kc0, .int)] sz z)) (va_Qi (fun (r : Int32) (_ : Unit) => r = 2) (fun (_ : Unit) (t : State) => PG (dC, dI) [(h0, .inr (6, [.ref h1, .ref o0, .ref h2])), (h1, .inr (2, [.ref o1, .ref h3, .ref o2, .ref o3])), (h2, .inr (4, [.ref h1, .ref h4, .int 2])), (h3, .inr (0, [.int 5, .ref o4, .int 5])), (h4, .inl (kc0, 8, .inl (upd (upd (fun _ => 0) 0 0) 1 0)))] [(kc0, .int)] (va_A [(h0, .inr (6, [.ref h1, .ref o0, .ref h2])), (h1, .inr (2, [.ref o1, .ref h3, .ref o2, .ref o3])), (h2, .inr (4, [.ref h1, .ref h4, .int 1])), (h3, .inr (0, [.int 5, .ref o4, .int 5])), (h4, .inl (kc0, 8, .inl (upd (fun _ => 0) 0 0)))] sz) sz 0 t) (va_A [(h0, .inr (6, [.ref h1, .ref o0, .ref h2])), (h1, .inr (2, [.ref o1, .ref h3, .ref o2, .ref o3])), (h2, .inr (4, [.ref h1, .ref h4, .int 1])), (h3, .inr (0, [.int 5, .ref o4, .int 5])), (h4, .inl (kc0, 8, .inl (upd (fun _ => 0) 0 0)))] sz)) 0 0 (va_A [(h0, .inr (6, [.ref h1, .ref o0, .ref h2])), (h1, .inr (2, [.ref o1, .ref h3, .ref o2, .ref o3])), (h2, .inr (4, [.ref h1, .ref h4, .int 1])), (h3, .inr (0, [.int 5, .ref o4, .int 5])), (h4, .inl (kc0, 8, .inl (upd (fun _ => 0) 0 0)))] sz) := by
  refine Met.ofW (cc := cX6_addTest) (maxL := 2) (ret := (some .int)) (by decide) rfl ?_
  intro p e s m args below meth c s₁ B hml hv
  obtain ⟨rfl, hsz, hP, hK, hD0, hX, hT⟩ := hv
  have hx := B.exec
  have hb := B.bytes
  have hr := B.returns
  have hts0 := atoms_spec (ws := .code yX6_addTest cX6_addTest 2 (some .int) :: wsL_law) B.pre
  have hts := xTail hts0
  have hown : s.vm.findClass RX6 = some m.cls := findClass_of_methodNamed B.named
  have hlocks := B.notSynchronized
  subst hsz
  have hD := hD0.self (sz := s.heap.size)
  generalize hAe : va_A [(h0, .inr (6, [.ref h1, .ref o0, .ref h2])), (h1, .inr (2, [.ref o1, .ref h3, .ref o2, .ref o3])), (h2, .inr (4, [.ref h1, .ref h4, .int 1])), (h3, .inr (0, [.int 5, .ref o4, .int 5])), (h4, .inl (kc0, 8, .inl (upd (fun _ => 0) 0 0)))] s.heap.size = A at hD hX ⊢
  have hA : ∀ q : Nat, s.heap.size ≤ q → A q := fun q h => by rw [← hAe]; exact Or.inr h
  have hS : va_S A s.heap s.heap [] := va_S.rf
  have hG : s.heap.size + 0 ≤ s.heap.size := Nat.le_refl _
  have hl := lv_entry ([.ref h0, .int 0]) (n := 2) (Nat.le_of_ble_eq_true rfl)
  rw [lg_entry_eq]
  generalize (lg_sl ([.ref h0, .int 0]) ++ List.replicate (2 - (lg_sl ([.ref h0, .int 0])).length) Slot.unset).toArray = ls at hl ⊢
  have hl : lv_has ls 2 [(0, .ref h0), (1, .int 0)] := hl
  refine lv_aload_n hx hb dX6_addTest_0 rfl (lv_at hl 0 rfl) ?_
  refine lv_iload_n hx hb dX6_addTest_1 rfl (lv_at hl 1 rfl) ?_
  have hF1 := va_free (wc := [(h0, .inr (6, [.ref h1, .ref o0, .ref h2])), (h1, .inr (2, [.ref o1, .ref h3, .ref o2, .ref o3])), (h2, .inr (4, [.ref h1, .ref h4, .int 1])), (h3, .inr (0, [.int 5, .ref o4, .int 5]))]) hD hS hA [0, 1, 2, 3] rfl
  refine va_callv (va_runV (As := [.int 0]) (rest := []) ⟨hx, hb, hml, hown, hts⟩ (k493_requireRow l hl9 dC dI z h0 h1 h2 h3 o0 o1 o2 o3 h4 o4 s.heap.size) (cwV 1 hts (gV q_354 q_355 q_356 q_2 q_353) rfl rfl rfl (by decide +kernel) ⟨Nat.le_of_ble_eq_true rfl, Nat.le_of_ble_eq_true rfl⟩) ⟨pc_blind, va_recv hK hP (ci := 6) (q0 := 0) rfl rfl, fun U hU hW => ⟨rfl, pc_mk hP hD hK hS hX hT [0, 1, 2, 3] [] rfl rfl rfl rfl hF1 hU hW⟩⟩ rfl rfl hl.1 rfl (lv_room (Nat.le_of_ble_eq_true rfl)) dX6_addTest_2 ⟨(Nat.le_of_ble_eq_true rfl), (Nat.le_of_ble_eq_true rfl)⟩) hS (fun q9 _ h9 => hF1 q9 h9) hF1 (fun u3 t3 H3 L3 ht3 hvm3 hw3 hB3 hz3 hk3 hS => ?_)
  obtain ⟨hP, hD, hK⟩ := pq_join (wr := [(h4, .inl (kc0, 8, .inl (upd (fun _ => 0) 0 0)))]) (tr := [(kc0, .int)]) (wz := [(h4, .inl (kc0, 8, .inl (upd (fun _ => 0) 0 0))), (h0, .inr (6, [.ref h1, .ref o0, .ref h2])), (h1, .inr (2, [.ref o1, .ref h3, .ref o2, .ref o3])), (h2, .inr (4, [.ref h1, .ref h4, .int 1])), (h3, .inr (0, [.int 5, .ref o4, .int 5]))]) (tz := [(kc0, .int)]) hP hD hK [0, 1, 2, 3] [4] [0] rfl rfl (by decide) (by decide) rfl hk3 hF1 hB3.1 ht3 hvm3 rfl rfl
  have hG : s.heap.size + 0 ≤ H3.size := Nat.le_trans hG hz3
  refine lv_aload_n hx hb dX6_addTest_5 rfl (lv_at hl 0 rfl) ?_
  refine va_get (D := (dC, dI)) (ci := 6) (v := .ref h2) (C := RX6) (T := TX6) (N := 3) hx hb hts in_X6 hown hK hP 1 rfl rfl 2 (by decide) (hts _ q_54) (fun _ h9 => h9) rfl dX6_addTest_6 ?_
  refine va_get (D := (dC, dI)) (ci := 4) (v := .int 1) (C := RX4) (T := TX4) (N := 3) hx hb hts in_X4 hown hK hP 3 rfl rfl 2 (by decide) (hts _ q_357) (fun _ h9 => h9) rfl dX6_addTest_9 ?_
  refine lv_bipush (v := 8) hx hb dX6_addTest_12 (by decide) ?_
  refine lv_icmp_lt (tgt := 27) hx hb dX6_addTest_14 (by decide) (fun _ => ?_) (fun cz => absurd (by decide) cz)
  refine lv_aload_n hx hb dX6_addTest_27 rfl (lv_at hl 0 rfl) ?_
  refine va_get (D := (dC, dI)) (ci := 6) (v := .ref h2) (C := RX6) (T := TX6) (N := 3) hx hb hts in_X6 hown hK hP 1 rfl rfl 2 (by decide) (hts _ q_54) (fun _ h9 => h9) rfl dX6_addTest_28 ?_
  refine lv_iload_n hx hb dX6_addTest_31 rfl (lv_at hl 1 rfl) ?_
  have hF5 := va_free (wc := [(h2, .inr (4, [.ref h1, .ref h4, .int 1])), (h4, .inl (kc0, 8, .inl (upd (fun _ => 0) 0 0)))]) hD hS hA [3, 0] rfl
  refine va_callv (va_runV (As := [.int 0]) (rest := []) ⟨hx, hb, hml, hown, hts⟩ (k494_keepTest l hl9 dC dI z h2 h4 h1 H3.size kc0) (cwV 1 hts (gV q_360 q_361 q_362 q_46 q_359) rfl rfl rfl (by decide +kernel) ⟨Nat.le_of_ble_eq_true rfl, Nat.le_of_ble_eq_true rfl⟩) ⟨pc_blind, va_recv hK hP (ci := 4) (q0 := 3) rfl rfl, fun U hU hW => ⟨rfl, pc_mk hP hD hK hS hX hT [3, 0] [0] rfl rfl rfl rfl hF5 hU hW⟩⟩ rfl rfl hl.1 rfl (lv_room (Nat.le_of_ble_eq_true rfl)) dX6_addTest_32 ⟨(Nat.le_of_ble_eq_true rfl), (Nat.le_of_ble_eq_true rfl)⟩) hS (fun q9 _ h9 => hF5 q9 h9) hF5 (fun u7 t7 H7 L7 ht7 hvm7 hw7 hB7 hz7 hk7 hS => ?_)
  obtain ⟨hP, hD, hK⟩ := pq_join (wr := [(h0, .inr (6, [.ref h1, .ref o0, .ref h2])), (h1, .inr (2, [.ref o1, .ref h3, .ref o2, .ref o3])), (h3, .inr (0, [.int 5, .ref o4, .int 5]))]) (tr := []) (wz := [(h0, .inr (6, [.ref h1, .ref o0, .ref h2])), (h1, .inr (2, [.ref o1, .ref h3, .ref o2, .ref o3])), (h3, .inr (0, [.int 5, .ref o4, .int 5])), (h2, .inr (4, [.ref h1, .ref h4, .int 2])), (h4, .inl (kc0, 8, .inl (upd (upd (fun _ => 0) 0 0) 1 0)))]) (tz := [(kc0, .int)]) hP hD hK [3, 0] [1, 2, 4] [] rfl rfl (by decide) (by decide) rfl hk7 hF5 hB7.1 ht7 hvm7 rfl rfl
  have hG : s.heap.size + 0 ≤ H7.size := Nat.le_trans hG hz7
  refine lv_aload_n hx hb dX6_addTest_35 rfl (lv_at hl 0 rfl) ?_
  refine va_get (D := (dC, dI)) (ci := 6) (v := .ref h2) (C := RX6) (T := TX6) (N := 3) hx hb hts in_X6 hown hK hP 0 rfl rfl 2 (by decide) (hts _ q_54) (fun _ h9 => h9) rfl dX6_addTest_36 ?_
  refine va_get (D := (dC, dI)) (ci := 4) (v := .int 2) (C := RX4) (T := TX4) (N := 3) hx hb hts in_X4 hown hK hP 3 rfl rfl 2 (by decide) (hts _ q_357) (fun _ h9 => h9) rfl dX6_addTest_39 ?_
  exact W.iret (v := 2) hx hb hr (fun t9 ht9 hW9 => ⟨⟨2, (), rfl, rfl, ⟨pq_mk (wc := [(h0, .inr (6, [.ref h1, .ref o0, .ref h2])), (h1, .inr (2, [.ref o1, .ref h3, .ref o2, .ref o3])), (h2, .inr (4, [.ref h1, .ref h4, .int 2])), (h3, .inr (0, [.int 5, .ref o4, .int 5])), (h4, .inl (kc0, 8, .inl (upd (upd (fun _ => 0) 0 0) 1 0)))]) (tc := [(kc0, .int)]) hP hD hK [0, 1, 3, 2, 4] [0] rfl rfl rfl rfl ht9 hW9, by rw [ht9]; exact Nat.le_trans (Nat.add_le_add_left (Nat.le_of_ble_eq_true rfl) _) hG⟩⟩, hS.F ht9⟩) hS.2.2 dX6_addTest_42

set_option maxHeartbeats 4000000 in
set_option maxRecDepth 100000 in
theorem k496_addTest (l : Launch) (hl9 : l.stackTraces = false) (dC : Nat → ClassId) (dI : Nat → Nat → Nat) (z : XZ) (h0 h1 h2 h3 h4 h5 : Nat) (o0 o1 o2 o3 o4 : Nat) (sz : Nat) (kc0 kc1 : ClassId) : Met l yL_addTest (.codeWith yL_addTest cL_addTest 4 (some .int) [(0, 9, 12, 64), (0, 9, 15, 15)] :: wsL_law) ({ frames := 4, cells := 0, slots := 0, locals := 82 }) (va_Pc [.ref h0, .int 0, .ref h1] (PC (dC, dI) [(h0, .inr (6, [.ref h2, .ref o0, .ref h3])), (h1, .inl (kc0, 1, .inr (.inl (vp_updL (fun _ => 0) 0 1)))), (h2, .inr (2, [.ref o1, .ref h4, .ref o2, .ref o3])), (h3, .inr (4, [.ref h2, .ref h5, .int 1])), (h4, .inr (0, [.int 5, .ref o4, .int 5])), (h5, .inl (kc1, 8, .inl (upd (fun _ => 0) 0 0)))] [(kc0, .long), (kc1, .int)] sz z)) (va_Qi (fun (r : Int32) (_ : Unit) => r = 0) (fun (_ : Unit) (t : State) => PG (dC, dI) [(h0, .inr (6, [.ref h2, .ref o0, .ref h3])), (h1, .inl (kc0, 1, .inr (.inl (vp_updL (fun _ => 0) 0 2)))), (h2, .inr (2, [.ref o1, .ref h4, .ref o2, .ref o3])), (h3, .inr (4, [.ref h2, .ref h5, .int 2])), (h4, .inr (0, [.int 5, .ref o4, .int 5])), (h5, .inl (kc1, 8, .inl (upd (upd (fun _ => 0) 0 0) 1 0)))] [(kc0, .long), (kc1, .int)] (va_A [(h0, .inr (6, [.ref h2, .ref o0, .ref h3])), (h1, .inl (kc0, 1, .inr (.inl (vp_updL (fun _ => 0) 0 1)))), (h2, .inr (2, [.ref o1, .ref h4, .ref o2, .ref o3])), (h3, .inr (4, [.ref h2, .ref h5, .int 1])), (h4, .inr (0, [.int 5, .ref o4, .int 5])), (h5, .inl (kc1, 8, .inl (upd (fun _ => 0) 0 0)))] sz) sz 0 t) (va_A [(h0, .inr (6, [.ref h2, .ref o0, .ref h3])), (h1, .inl (kc0, 1, .inr (.inl (vp_updL (fun _ => 0) 0 1)))), (h2, .inr (2, [.ref o1, .ref h4, .ref o2, .ref o3])), (h3, .inr (4, [.ref h2, .ref h5, .int 1])), (h4, .inr (0, [.int 5, .ref o4, .int 5])), (h5, .inl (kc1, 8, .inl (upd (fun _ => 0) 0 0)))] sz)) 0 0 (va_A [(h0, .inr (6, [.ref h2, .ref o0, .ref h3])), (h1, .inl (kc0, 1, .inr (.inl (vp_updL (fun _ => 0) 0 1)))), (h2, .inr (2, [.ref o1, .ref h4, .ref o2, .ref o3])), (h3, .inr (4, [.ref h2, .ref h5, .int 1])), (h4, .inr (0, [.int 5, .ref o4, .int 5])), (h5, .inl (kc1, 8, .inl (upd (fun _ => 0) 0 0)))] sz) := by
  refine va_MetW (cc := cL_addTest) (maxL := 4) (ret := (some .int)) (hh := [(0, 9, 12, 64), (0, 9, 15, 15)]) (by decide) rfl ?_
  intro p e s m args below meth c s₁ B hml hv
  obtain ⟨rfl, hsz, hP, hK, hD0, hX, hT⟩ := hv
  have hx := B.exec
  have hb := B.bytes
  have hr := B.returns
  have hts0 := atoms_spec (ws := .codeWith yL_addTest cL_addTest 4 (some .int) [(0, 9, 12, 64), (0, 9, 15, 15)] :: wsL_law) B.pre
  have htab := vx_table (x := yL_addTest) B (hts0 _ List.mem_cons_self)
  have hts := xTail hts0
  have hown : s.vm.findClass RL = some m.cls := findClass_of_methodNamed B.named
  have hlocks := B.notSynchronized
  subst hsz
  have hD := hD0.self (sz := s.heap.size)
  generalize hAe : va_A [(h0, .inr (6, [.ref h2, .ref o0, .ref h3])), (h1, .inl (kc0, 1, .inr (.inl (vp_updL (fun _ => 0) 0 1)))), (h2, .inr (2, [.ref o1, .ref h4, .ref o2, .ref o3])), (h3, .inr (4, [.ref h2, .ref h5, .int 1])), (h4, .inr (0, [.int 5, .ref o4, .int 5])), (h5, .inl (kc1, 8, .inl (upd (fun _ => 0) 0 0)))] s.heap.size = A at hD hX ⊢
  have hA : ∀ q : Nat, s.heap.size ≤ q → A q := fun q h => by rw [← hAe]; exact Or.inr h
  have hS : va_S A s.heap s.heap [] := va_S.rf
  have hG : s.heap.size + 0 ≤ s.heap.size := Nat.le_refl _
  have hl := lv_entry ([.ref h0, .int 0, .ref h1]) (n := 4) (Nat.le_of_ble_eq_true rfl)
  rw [lg_entry_eq]
  generalize (lg_sl ([.ref h0, .int 0, .ref h1]) ++ List.replicate (4 - (lg_sl ([.ref h0, .int 0, .ref h1])).length) Slot.unset).toArray = ls at hl ⊢
  have hl : lv_has ls 4 [(0, .ref h0), (1, .int 0), (2, .ref h1)] := hl
  refine lv_aload_n hx hb dL_addTest_0 rfl (lv_at hl 2 rfl) ?_
  refine lv_iconst (v := 0) hx hb dL_addTest_1 (by decide) ?_
  refine lv_aload_n hx hb dL_addTest_2 rfl (lv_at hl 0 rfl) ?_
  refine lv_iload_n hx hb dL_addTest_3 rfl (lv_at hl 1 rfl) ?_
  have hF1 := va_free (wc := [(h0, .inr (6, [.ref h2, .ref o0, .ref h3])), (h2, .inr (2, [.ref o1, .ref h4, .ref o2, .ref o3])), (h3, .inr (4, [.ref h2, .ref h5, .int 1])), (h4, .inr (0, [.int 5, .ref o4, .int 5])), (h5, .inl (kc1, 8, .inl (upd (fun _ => 0) 0 0)))]) hD hS hA [0, 2, 3, 4, 5] rfl
  refine va_calli (va_runV (As := [.int 0]) (rest := [.int 0, .ref h1]) ⟨hx, hb, hml, hown, hts⟩ (k495_addTest l hl9 dC dI z h0 h2 h3 h4 h5 o0 o1 o2 o3 o4 s.heap.size kc1) (cwV 1 hts (gV q_364 q_365 q_366 q_2 q_363) rfl rfl rfl (by decide +kernel) ⟨Nat.le_of_ble_eq_true rfl, Nat.le_of_ble_eq_true rfl⟩) ⟨pc_blind, va_recv hK hP (ci := 6) (q0 := 0) rfl rfl, fun U hU hW => ⟨rfl, pc_mk hP hD hK hS hX hT [0, 2, 3, 4, 5] [1] rfl rfl rfl rfl hF1 hU hW⟩⟩ rfl rfl hl.1 rfl (lv_room (Nat.le_of_ble_eq_true rfl)) dL_addTest_4 ⟨(Nat.le_of_ble_eq_true rfl), (Nat.le_of_ble_eq_true rfl)⟩) hS (fun q9 _ h9 => hF1 q9 h9) hF1 (fun r4 u3 t3 H3 L3 ht3 hvm3 hw3 hB3 hz3 hk3 hS => ?_)
  obtain ⟨hP, hD, hK⟩ := pq_join (wr := [(h1, .inl (kc0, 1, .inr (.inl (vp_updL (fun _ => 0) 0 1))))]) (tr := [(kc0, .long)]) (wz := [(h1, .inl (kc0, 1, .inr (.inl (vp_updL (fun _ => 0) 0 1)))), (h0, .inr (6, [.ref h2, .ref o0, .ref h3])), (h2, .inr (2, [.ref o1, .ref h4, .ref o2, .ref o3])), (h3, .inr (4, [.ref h2, .ref h5, .int 2])), (h4, .inr (0, [.int 5, .ref o4, .int 5])), (h5, .inl (kc1, 8, .inl (upd (upd (fun _ => 0) 0 0) 1 0)))]) (tz := [(kc0, .long), (kc1, .int)]) hP hD hK [0, 2, 3, 4, 5] [1] [0] rfl rfl (by decide) (by decide) rfl hk3 hF1 hB3.1 ht3 hvm3 rfl rfl
  have hG : s.heap.size + 0 ≤ H3.size := Nat.le_trans hG hz3
  refine W.eq (g2 := F0 m 7 ls [.int 2, .int 0, .ref h1]) (by rw [hw3]) ?_
  refine lv_i2l (v := 2) hx hb dL_addTest_7 (by decide) ?_
  refine va_last hx hb hK hP hD (va_Sre hS) 0 0 rfl rfl (i := 0) (by unfold vp_in; decide) dL_addTest_8 (fun H5 _ hP hD hS' => ?_)
  have hG : s.heap.size + 0 ≤ H5.size := Nat.le_trans hG hS'.1
  have hS := va_Str hS hS'
  have hP : va_P (dC, dI) xCl [(h1, .inl (kc0, 1, .inr (.inl (vp_updL (vp_updL (fun _ => 0) 0 1) 0 2)))), (h0, .inr (6, [.ref h2, .ref o0, .ref h3])), (h2, .inr (2, [.ref o1, .ref h4, .ref o2, .ref o3])), (h3, .inr (4, [.ref h2, .ref h5, .int 2])), (h4, .inr (0, [.int 5, .ref o4, .int 5])), (h5, .inl (kc1, 8, .inl (upd (upd (fun _ => 0) 0 0) 1 0)))] H5 := hP
  have hD : va_D A [(h1, .inl (kc0, 1, .inr (.inl (vp_updL (vp_updL (fun _ => 0) 0 1) 0 2)))), (h0, .inr (6, [.ref h2, .ref o0, .ref h3])), (h2, .inr (2, [.ref o1, .ref h4, .ref o2, .ref o3])), (h3, .inr (4, [.ref h2, .ref h5, .int 2])), (h4, .inr (0, [.int 5, .ref o4, .int 5])), (h5, .inl (kc1, 8, .inl (upd (upd (fun _ => 0) 0 0) 1 0)))] := hD
  refine lv_goto (tgt := 18) hx hb dL_addTest_9 (by decide) ?_
  refine lv_iconst (v := 0) hx hb dL_addTest_18 (by decide) ?_
  have hu6 : (vp_updL (vp_updL (fun _ => 0) 0 1) 0 2) = (vp_updL (fun _ => 0) 0 2) := by funext j; by_cases g0 : j = 0; (subst g0; rfl); simp only [vp_updL, g0, if_false]
  rw [hu6] at hP hD
  have hP : va_P (dC, dI) xCl [(h1, .inl (kc0, 1, .inr (.inl (vp_updL (fun _ => 0) 0 2)))), (h0, .inr (6, [.ref h2, .ref o0, .ref h3])), (h2, .inr (2, [.ref o1, .ref h4, .ref o2, .ref o3])), (h3, .inr (4, [.ref h2, .ref h5, .int 2])), (h4, .inr (0, [.int 5, .ref o4, .int 5])), (h5, .inl (kc1, 8, .inl (upd (upd (fun _ => 0) 0 0) 1 0)))] H5 := hP
  have hD : va_D A [(h1, .inl (kc0, 1, .inr (.inl (vp_updL (fun _ => 0) 0 2)))), (h0, .inr (6, [.ref h2, .ref o0, .ref h3])), (h2, .inr (2, [.ref o1, .ref h4, .ref o2, .ref o3])), (h3, .inr (4, [.ref h2, .ref h5, .int 2])), (h4, .inr (0, [.int 5, .ref o4, .int 5])), (h5, .inl (kc1, 8, .inl (upd (upd (fun _ => 0) 0 0) 1 0)))] := hD
  exact W.iret (v := 0) hx hb hr (fun t9 ht9 hW9 => ⟨⟨0, (), rfl, rfl, ⟨pq_mk (wc := [(h0, .inr (6, [.ref h2, .ref o0, .ref h3])), (h1, .inl (kc0, 1, .inr (.inl (vp_updL (fun _ => 0) 0 2)))), (h2, .inr (2, [.ref o1, .ref h4, .ref o2, .ref o3])), (h3, .inr (4, [.ref h2, .ref h5, .int 2])), (h4, .inr (0, [.int 5, .ref o4, .int 5])), (h5, .inl (kc1, 8, .inl (upd (upd (fun _ => 0) 0 0) 1 0)))]) (tc := [(kc0, .long), (kc1, .int)]) hP hD hK [1, 0, 2, 3, 4, 5] [0, 1] rfl rfl rfl rfl ht9 hW9, by rw [ht9]; exact Nat.le_trans (Nat.add_le_add_left (Nat.le_of_ble_eq_true rfl) _) hG⟩⟩, hS.F ht9⟩) hS.2.2 dL_addTest_19

set_option maxHeartbeats 4000000 in
set_option maxRecDepth 100000 in
theorem k497_add (l : Launch) (hl9 : l.stackTraces = false) (dC : Nat → ClassId) (dI : Nat → Nat → Nat) (z : XZ) (h0 h1 : Nat) (sz : Nat) (kc0 : ClassId) : Met l yJx4a65c_add_72be8 (.code yJx4a65c_add_72be8 cJx4a65c_add_72be8 4 none :: wsL_law) ({ frames := 0, cells := 0, slots := 0, locals := 0 }) (va_Pc [.ref h0, .ref (z.2.2.1 128), .ref h1, .int 1] (PC (dC, dI) [(h0, .inr (0, [.int 2, .ref h1, .int 1])), (h1, .inl (kc0, 10, .inr (.inr (.inr (.inr (va_up (fun _ => none) 0 (some (z.2.2.1 128))))))))] [(kc0, .object "java/lang/Object")] sz z)) (va_Qv (fun (_ : Unit) => True) (fun (_ : Unit) (t : State) => PG (dC, dI) [(h0, .inr (0, [.int 2, .ref h1, .int 2])), (h1, .inl (kc0, 10, .inr (.inr (.inr (.inr (va_up (va_up (fun _ => none) 0 (some (z.2.2.1 128))) 1 (some (z.2.2.1 128))))))))] [(kc0, .object "java/lang/Object")] (va_A [(h0, .inr (0, [.int 2, .ref h1, .int 1])), (h1, .inl (kc0, 10, .inr (.inr (.inr (.inr (va_up (fun _ => none) 0 (some (z.2.2.1 128))))))))] sz) sz 0 t) (va_A [(h0, .inr (0, [.int 2, .ref h1, .int 1])), (h1, .inl (kc0, 10, .inr (.inr (.inr (.inr (va_up (fun _ => none) 0 (some (z.2.2.1 128))))))))] sz)) 0 0 (va_A [(h0, .inr (0, [.int 2, .ref h1, .int 1])), (h1, .inl (kc0, 10, .inr (.inr (.inr (.inr (va_up (fun _ => none) 0 (some (z.2.2.1 128))))))))] sz) := by
  refine Met.ofW (cc := cJx4a65c_add_72be8) (maxL := 4) (ret := none) (by decide) rfl ?_
  intro p e s m args below meth c s₁ B hml hv
  obtain ⟨rfl, hsz, hP, hK, hD0, hX, hT⟩ := hv
  have hx := B.exec
  have hb := B.bytes
  have hr := B.returns
  have hts0 := atoms_spec (ws := .code yJx4a65c_add_72be8 cJx4a65c_add_72be8 4 none :: wsL_law) B.pre
  have hts := xTail hts0
  have hown : s.vm.findClass RJx4a65c = some m.cls := findClass_of_methodNamed B.named
  have hlocks := B.notSynchronized
  subst hsz
  have hD := hD0.self (sz := s.heap.size)
  generalize hAe : va_A [(h0, .inr (0, [.int 2, .ref h1, .int 1])), (h1, .inl (kc0, 10, .inr (.inr (.inr (.inr (va_up (fun _ => none) 0 (some (z.2.2.1 128))))))))] s.heap.size = A at hD hX ⊢
  have hA : ∀ q : Nat, s.heap.size ≤ q → A q := fun q h => by rw [← hAe]; exact Or.inr h
  have hS : va_S A s.heap s.heap [] := va_S.rf
  have hG : s.heap.size + 0 ≤ s.heap.size := Nat.le_refl _
  have hl := lv_entry ([.ref h0, .ref (z.2.2.1 128), .ref h1, .int 1]) (n := 4) (Nat.le_of_ble_eq_true rfl)
  rw [lg_entry_eq]
  generalize (lg_sl ([.ref h0, .ref (z.2.2.1 128), .ref h1, .int 1]) ++ List.replicate (4 - (lg_sl ([.ref h0, .ref (z.2.2.1 128), .ref h1, .int 1])).length) Slot.unset).toArray = ls at hl ⊢
  have hl : lv_has ls 4 [(0, .ref h0), (1, .ref (z.2.2.1 128)), (2, .ref h1), (3, .int 1)] := hl
  refine lv_iload_n hx hb dJx4a65c_add_72be8_0 rfl (lv_at hl 3 rfl) ?_
  refine lv_aload_n hx hb dJx4a65c_add_72be8_1 rfl (lv_at hl 2 rfl) ?_
  refine va_alen hx hb hK hP 1 0 rfl rfl (v := 10) rfl dJx4a65c_add_72be8_2 ?_
  refine lv_icmp_ne (tgt := 11) hx hb dJx4a65c_add_72be8_3 (by decide) (fun _ => ?_) (fun cz => absurd cz (by decide))
  refine lv_aload_n hx hb dJx4a65c_add_72be8_11 rfl (lv_at hl 2 rfl) ?_
  refine lv_iload_n hx hb dJx4a65c_add_72be8_12 rfl (lv_at hl 3 rfl) ?_
  refine lv_aload_n hx hb dJx4a65c_add_72be8_13 rfl (lv_at hl 1 rfl) ?_
  refine vb_astq (E := "java/lang/Object") (C := "java/lang/Integer") hx hb hK hP hD (va_Sre hS) 1 0 rfl rfl (va_Orecv (hX.2.2.1.1.1 128 (by decide)) hS) (vb_asgC (hT.2.1.1 ("java/lang/Integer", "java/lang/Object") (by decide))) (i := 1) (by unfold vp_in; decide) dJx4a65c_add_72be8_14 (fun H1 _ hP hD hS' => ?_)
  have hG : s.heap.size + 0 ≤ H1.size := Nat.le_trans hG hS'.1
  have hS := va_Str hS hS'
  have hP : va_P (dC, dI) xCl [(h0, .inr (0, [.int 2, .ref h1, .int 1])), (h1, .inl (kc0, 10, .inr (.inr (.inr (.inr (va_up (va_up (fun _ => none) 0 (some (z.2.2.1 128))) 1 (some (z.2.2.1 128))))))))] H1 := hP
  have hD : va_D A [(h0, .inr (0, [.int 2, .ref h1, .int 1])), (h1, .inl (kc0, 10, .inr (.inr (.inr (.inr (va_up (va_up (fun _ => none) 0 (some (z.2.2.1 128))) 1 (some (z.2.2.1 128))))))))] := hD
  refine lv_aload_n hx hb dJx4a65c_add_72be8_15 rfl (lv_at hl 0 rfl) ?_
  refine lv_iload_n hx hb dJx4a65c_add_72be8_16 rfl (lv_at hl 3 rfl) ?_
  refine lv_iconst (v := 1) hx hb dJx4a65c_add_72be8_17 (by decide) ?_
  refine lv_iadd hx hb dJx4a65c_add_72be8_18 ?_
  refine lv_topi (fun y2 ey2 => ?_)
  obtain rfl : y2 = 2 := ey2.trans (by decide)
  refine va_put (D := (dC, dI)) (ci := 0) (v := .int 2) (ty := .int) (C := RJx4a65c) (T := TJx4a65c) (N := 3) hx hb hts in_Jx4a65c tyJx4a65c tyJx4a65c_ok nmJx4a65c hown hK hP hD (va_Sre hS) 0 rfl rfl 2 (by decide) (hts _ q_74) (fun _ h9 => h9) rfl (by decide +kernel) rfl rfl (Nat.le_of_ble_eq_true rfl) dJx4a65c_add_72be8_19 (fun H3 _ hP hD hS' => ?_)
  have hG : s.heap.size + 0 ≤ H3.size := Nat.le_trans hG hS'.1
  have hS := va_Str hS hS'
  have hP : va_P (dC, dI) xCl [(h0, .inr (0, [.int 2, .ref h1, .int 2])), (h1, .inl (kc0, 10, .inr (.inr (.inr (.inr (va_up (va_up (fun _ => none) 0 (some (z.2.2.1 128))) 1 (some (z.2.2.1 128))))))))] H3 := hP
  have hD : va_D A [(h0, .inr (0, [.int 2, .ref h1, .int 2])), (h1, .inl (kc0, 10, .inr (.inr (.inr (.inr (va_up (va_up (fun _ => none) 0 (some (z.2.2.1 128))) 1 (some (z.2.2.1 128))))))))] := hD
  exact W.vret hx hb hr (fun t9 ht9 hW9 => ⟨⟨(), rfl, trivial, ⟨pq_mk (wc := [(h0, .inr (0, [.int 2, .ref h1, .int 2])), (h1, .inl (kc0, 10, .inr (.inr (.inr (.inr (va_up (va_up (fun _ => none) 0 (some (z.2.2.1 128))) 1 (some (z.2.2.1 128))))))))]) (tc := [(kc0, .object "java/lang/Object")]) hP hD hK [0, 1] [0] rfl rfl rfl rfl ht9 hW9, by rw [ht9]; exact Nat.le_trans (Nat.add_le_add_left (Nat.le_of_ble_eq_true rfl) _) hG⟩⟩, hS.F ht9⟩) hS.2.2 dJx4a65c_add_72be8_22

set_option maxHeartbeats 4000000 in
set_option maxRecDepth 100000 in
theorem k498_add (l : Launch) (hl9 : l.stackTraces = false) (dC : Nat → ClassId) (dI : Nat → Nat → Nat) (z : XZ) (h0 h1 : Nat) (sz : Nat) (kc0 : ClassId) : Met l yJx4a65c_add_9ea2d (.code yJx4a65c_add_9ea2d cJx4a65c_add_9ea2d 2 (some .boolean) :: wsL_law) ({ frames := 1, cells := 0, slots := 0, locals := 23 }) (va_Pc [.ref h0, .ref (z.2.2.1 128)] (PC (dC, dI) [(h0, .inr (0, [.int 1, .ref h1, .int 1])), (h1, .inl (kc0, 10, .inr (.inr (.inr (.inr (va_up (fun _ => none) 0 (some (z.2.2.1 128))))))))] [(kc0, .object "java/lang/Object")] sz z)) (va_Qi (fun (r : Int32) (_ : Unit) => r = 1) (fun (_ : Unit) (t : State) => PG (dC, dI) [(h0, .inr (0, [.int 2, .ref h1, .int 2])), (h1, .inl (kc0, 10, .inr (.inr (.inr (.inr (va_up (va_up (fun _ => none) 0 (some (z.2.2.1 128))) 1 (some (z.2.2.1 128))))))))] [(kc0, .object "java/lang/Object")] (va_A [(h0, .inr (0, [.int 1, .ref h1, .int 1])), (h1, .inl (kc0, 10, .inr (.inr (.inr (.inr (va_up (fun _ => none) 0 (some (z.2.2.1 128))))))))] sz) sz 0 t) (va_A [(h0, .inr (0, [.int 1, .ref h1, .int 1])), (h1, .inl (kc0, 10, .inr (.inr (.inr (.inr (va_up (fun _ => none) 0 (some (z.2.2.1 128))))))))] sz)) 0 0 (va_A [(h0, .inr (0, [.int 1, .ref h1, .int 1])), (h1, .inl (kc0, 10, .inr (.inr (.inr (.inr (va_up (fun _ => none) 0 (some (z.2.2.1 128))))))))] sz) := by
  refine Met.ofW (cc := cJx4a65c_add_9ea2d) (maxL := 2) (ret := (some .boolean)) (by decide) rfl ?_
  intro p e s m args below meth c s₁ B hml hv
  obtain ⟨rfl, hsz, hP, hK, hD0, hX, hT⟩ := hv
  have hx := B.exec
  have hb := B.bytes
  have hr := B.returns
  have hts0 := atoms_spec (ws := .code yJx4a65c_add_9ea2d cJx4a65c_add_9ea2d 2 (some .boolean) :: wsL_law) B.pre
  have hts := xTail hts0
  have hown : s.vm.findClass RJx4a65c = some m.cls := findClass_of_methodNamed B.named
  have hlocks := B.notSynchronized
  subst hsz
  have hD := hD0.self (sz := s.heap.size)
  generalize hAe : va_A [(h0, .inr (0, [.int 1, .ref h1, .int 1])), (h1, .inl (kc0, 10, .inr (.inr (.inr (.inr (va_up (fun _ => none) 0 (some (z.2.2.1 128))))))))] s.heap.size = A at hD hX ⊢
  have hA : ∀ q : Nat, s.heap.size ≤ q → A q := fun q h => by rw [← hAe]; exact Or.inr h
  have hS : va_S A s.heap s.heap [] := va_S.rf
  have hG : s.heap.size + 0 ≤ s.heap.size := Nat.le_refl _
  have hl := lv_entry ([.ref h0, .ref (z.2.2.1 128)]) (n := 2) (Nat.le_of_ble_eq_true rfl)
  rw [lg_entry_eq]
  generalize (lg_sl ([.ref h0, .ref (z.2.2.1 128)]) ++ List.replicate (2 - (lg_sl ([.ref h0, .ref (z.2.2.1 128)])).length) Slot.unset).toArray = ls at hl ⊢
  have hl : lv_has ls 2 [(0, .ref h0), (1, .ref (z.2.2.1 128))] := hl
  refine lv_aload_n hx hb dJx4a65c_add_9ea2d_0 rfl (lv_at hl 0 rfl) ?_
  refine lv_dup hx hb dJx4a65c_add_9ea2d_1 rfl ?_
  refine va_get (D := (dC, dI)) (ci := 0) (v := .int 1) (C := RJx4a65c) (T := TJx4a65c) (N := 3) hx hb hts in_Jx4a65c hown hK hP 0 rfl rfl 0 (by decide) (hts _ q_108) (u_same (hts _ q_107)) rfl dJx4a65c_add_9ea2d_2 ?_
  refine lv_iconst (v := 1) hx hb dJx4a65c_add_9ea2d_5 (by decide) ?_
  refine lv_iadd hx hb dJx4a65c_add_9ea2d_6 ?_
  refine lv_topi (fun y1 ey1 => ?_)
  obtain rfl : y1 = 2 := ey1.trans (by decide)
  refine va_put (D := (dC, dI)) (ci := 0) (v := .int 2) (ty := .int) (C := RJx4a65c) (T := TJx4a65c) (N := 3) hx hb hts in_Jx4a65c tyJx4a65c tyJx4a65c_ok nmJx4a65c hown hK hP hD (va_Sre hS) 0 rfl rfl 0 (by decide) (hts _ q_108) (u_same (hts _ q_107)) rfl (by decide +kernel) rfl rfl (Nat.le_of_ble_eq_true rfl) dJx4a65c_add_9ea2d_7 (fun H2 _ hP hD hS' => ?_)
  have hG : s.heap.size + 0 ≤ H2.size := Nat.le_trans hG hS'.1
  have hS := va_Str hS hS'
  have hP : va_P (dC, dI) xCl [(h0, .inr (0, [.int 2, .ref h1, .int 1])), (h1, .inl (kc0, 10, .inr (.inr (.inr (.inr (va_up (fun _ => none) 0 (some (z.2.2.1 128))))))))] H2 := hP
  have hD : va_D A [(h0, .inr (0, [.int 2, .ref h1, .int 1])), (h1, .inl (kc0, 10, .inr (.inr (.inr (.inr (va_up (fun _ => none) 0 (some (z.2.2.1 128))))))))] := hD
  refine lv_aload_n hx hb dJx4a65c_add_9ea2d_10 rfl (lv_at hl 0 rfl) ?_
  refine lv_aload_n hx hb dJx4a65c_add_9ea2d_11 rfl (lv_at hl 1 rfl) ?_
  refine lv_aload_n hx hb dJx4a65c_add_9ea2d_12 rfl (lv_at hl 0 rfl) ?_
  refine va_get (D := (dC, dI)) (ci := 0) (v := .ref h1) (C := RJx4a65c) (T := TJx4a65c) (N := 3) hx hb hts in_Jx4a65c hown hK hP 0 rfl rfl 1 (by decide) (hts _ q_24) (fun _ h9 => h9) rfl dJx4a65c_add_9ea2d_13 ?_
  refine lv_aload_n hx hb dJx4a65c_add_9ea2d_16 rfl (lv_at hl 0 rfl) ?_
  refine va_get (D := (dC, dI)) (ci := 0) (v := .int 1) (C := RJx4a65c) (T := TJx4a65c) (N := 3) hx hb hts in_Jx4a65c hown hK hP 0 rfl rfl 2 (by decide) (hts _ q_74) (fun _ h9 => h9) rfl dJx4a65c_add_9ea2d_17 ?_
  have hF3 := va_free (wc := [(h0, .inr (0, [.int 2, .ref h1, .int 1])), (h1, .inl (kc0, 10, .inr (.inr (.inr (.inr (va_up (fun _ => none) 0 (some (z.2.2.1 128))))))))]) hD hS hA [0, 1] rfl
  refine va_callv (va_runV (As := [.ref (z.2.2.1 128), .ref h1, .int 1]) (rest := []) ⟨hx, hb, hml, hown, hts⟩ (k497_add l hl9 dC dI z h0 h1 H2.size kc0) (cwV 3 hts (gV q_123 q_124 q_125 q_12 q_122) rfl rfl rfl (by decide +kernel) ⟨Nat.le_of_ble_eq_true rfl, Nat.le_of_ble_eq_true rfl⟩) ⟨pc_blind, va_recv hK hP (ci := 0) (q0 := 0) rfl rfl, fun U hU hW => ⟨rfl, pc_mk hP hD hK hS hX hT [0, 1] [0] rfl rfl rfl rfl hF3 hU hW⟩⟩ rfl rfl hl.1 rfl (lv_room (Nat.le_of_ble_eq_true rfl)) dJx4a65c_add_9ea2d_20 ⟨(Nat.le_of_ble_eq_true rfl), (Nat.le_of_ble_eq_true rfl)⟩) hS (fun q9 _ h9 => hF3 q9 h9) hF3 (fun u5 t5 H5 L5 ht5 hvm5 hw5 hB5 hz5 hk5 hS => ?_)
  obtain ⟨hP, hD, hK⟩ := pq_join (wr := []) (tr := []) (wz := [(h0, .inr (0, [.int 2, .ref h1, .int 2])), (h1, .inl (kc0, 10, .inr (.inr (.inr (.inr (va_up (va_up (fun _ => none) 0 (some (z.2.2.1 128))) 1 (some (z.2.2.1 128))))))))]) (tz := [(kc0, .object "java/lang/Object")]) hP hD hK [0, 1] [] [] rfl rfl (by decide) (by decide) rfl hk5 hF3 hB5.1 ht5 hvm5 rfl rfl
  have hG : s.heap.size + 0 ≤ H5.size := Nat.le_trans hG hz5
  refine lv_iconst (v := 1) hx hb dJx4a65c_add_9ea2d_23 (by decide) ?_
  exact W.zret (v := 1) (ty := .boolean) hx hb hr rfl (fun t9 ht9 hW9 => ⟨⟨1, (), rfl, rfl, ⟨pq_mk (wc := [(h0, .inr (0, [.int 2, .ref h1, .int 2])), (h1, .inl (kc0, 10, .inr (.inr (.inr (.inr (va_up (va_up (fun _ => none) 0 (some (z.2.2.1 128))) 1 (some (z.2.2.1 128))))))))]) (tc := [(kc0, .object "java/lang/Object")]) hP hD hK [0, 1] [0] rfl rfl rfl rfl ht9 hW9, by rw [ht9]; exact Nat.le_trans (Nat.add_le_add_left (Nat.le_of_ble_eq_true rfl) _) hG⟩⟩, hS.F ht9⟩) hS.2.2 dJx4a65c_add_9ea2d_24

set_option maxHeartbeats 4000000 in
set_option maxRecDepth 100000 in
theorem k499_addTest (l : Launch) (hl9 : l.stackTraces = false) (dC : Nat → ClassId) (dI : Nat → Nat → Nat) (z : XZ) (h0 h1 h2 h3 h4 h5 h6 h7 h8 h9 : Nat) (o0 o1 : Nat) (sz : Nat) (kc0 kc1 : ClassId) : Met l yX9_addTest (.code yX9_addTest cX9_addTest 2 (some .int) :: wsL_law) ({ frames := 5, cells := 1, slots := 4, locals := 100 }) (va_Pc [.ref h0, .int 0] (PC (dC, dI) [(h0, .inr (8, [.int 0, .ref h1, .ref o0, .ref h2, .ref o1, .int 0])), (h1, .inr (0, [.int 5, .ref h3, .int 5])), (h2, .inr (0, [.int 1, .ref h4, .int 1])), (h3, .inl (kc0, 10, .inr (.inr (.inr (.inr (va_up (va_up (va_up (va_up (va_up (fun _ => none) 0 (some h5)) 1 (some h6)) 2 (some h7)) 3 (some h8)) 4 (some h9))))))), (h4, .inl (kc1, 10, .inr (.inr (.inr (.inr (va_up (fun _ => none) 0 (some (z.2.2.1 128)))))))), (h5, .inr (7, [.int 105, .int 120, .int 0, .int (-1), .int 0, .int (-1)])), (h6, .inr (7, [.int 105, .int 120, .int 0, .int (-1), .int 0, .int (-1)])), (h7, .inr (7, [.int 105, .int 120, .int 0, .int (-1), .int 0, .int (-1)])), (h8, .inr (7, [.int 105, .int 120, .int 0, .int (-1), .int 0, .int (-1)])), (h9, .inr (7, [.int 105, .int 120, .int 0, .int (-1), .int 0, .int (-1)]))] [(kc0, .object "java/lang/Object"), (kc1, .object "java/lang/Object")] sz z)) (va_Qi (fun (r : Int32) (_ : Unit) => r = 2) (fun (_ : Unit) (t : State) => PG (dC, dI) [(h0, .inr (8, [.int 0, .ref h1, .ref o0, .ref h2, .ref o1, .int 0])), (h1, .inr (0, [.int 5, .ref h3, .int 5])), (h2, .inr (0, [.int 2, .ref h4, .int 2])), (h3, .inl (kc0, 10, .inr (.inr (.inr (.inr (va_up (va_up (va_up (va_up (va_up (fun _ => none) 0 (some h5)) 1 (some h6)) 2 (some h7)) 3 (some h8)) 4 (some h9))))))), (h4, .inl (kc1, 10, .inr (.inr (.inr (.inr (va_up (va_up (fun _ => none) 0 (some (z.2.2.1 128))) 1 (some (z.2.2.1 128)))))))), (h5, .inr (7, [.int 105, .int 120, .int 0, .int (-1), .int 0, .int (-1)])), (h6, .inr (7, [.int 105, .int 120, .int 0, .int (-1), .int 0, .int (-1)])), (h7, .inr (7, [.int 105, .int 120, .int 0, .int (-1), .int 0, .int (-1)])), (h8, .inr (7, [.int 105, .int 120, .int 0, .int (-1), .int 0, .int (-1)])), (h9, .inr (7, [.int 105, .int 120, .int 0, .int (-1), .int 0, .int (-1)]))] [(kc0, .object "java/lang/Object"), (kc1, .object "java/lang/Object")] (va_A [(h0, .inr (8, [.int 0, .ref h1, .ref o0, .ref h2, .ref o1, .int 0])), (h1, .inr (0, [.int 5, .ref h3, .int 5])), (h2, .inr (0, [.int 1, .ref h4, .int 1])), (h3, .inl (kc0, 10, .inr (.inr (.inr (.inr (va_up (va_up (va_up (va_up (va_up (fun _ => none) 0 (some h5)) 1 (some h6)) 2 (some h7)) 3 (some h8)) 4 (some h9))))))), (h4, .inl (kc1, 10, .inr (.inr (.inr (.inr (va_up (fun _ => none) 0 (some (z.2.2.1 128)))))))), (h5, .inr (7, [.int 105, .int 120, .int 0, .int (-1), .int 0, .int (-1)])), (h6, .inr (7, [.int 105, .int 120, .int 0, .int (-1), .int 0, .int (-1)])), (h7, .inr (7, [.int 105, .int 120, .int 0, .int (-1), .int 0, .int (-1)])), (h8, .inr (7, [.int 105, .int 120, .int 0, .int (-1), .int 0, .int (-1)])), (h9, .inr (7, [.int 105, .int 120, .int 0, .int (-1), .int 0, .int (-1)]))] sz) sz 1 t) (va_A [(h0, .inr (8, [.int 0, .ref h1, .ref o0, .ref h2, .ref o1, .int 0])), (h1, .inr (0, [.int 5, .ref h3, .int 5])), (h2, .inr (0, [.int 1, .ref h4, .int 1])), (h3, .inl (kc0, 10, .inr (.inr (.inr (.inr (va_up (va_up (va_up (va_up (va_up (fun _ => none) 0 (some h5)) 1 (some h6)) 2 (some h7)) 3 (some h8)) 4 (some h9))))))), (h4, .inl (kc1, 10, .inr (.inr (.inr (.inr (va_up (fun _ => none) 0 (some (z.2.2.1 128)))))))), (h5, .inr (7, [.int 105, .int 120, .int 0, .int (-1), .int 0, .int (-1)])), (h6, .inr (7, [.int 105, .int 120, .int 0, .int (-1), .int 0, .int (-1)])), (h7, .inr (7, [.int 105, .int 120, .int 0, .int (-1), .int 0, .int (-1)])), (h8, .inr (7, [.int 105, .int 120, .int 0, .int (-1), .int 0, .int (-1)])), (h9, .inr (7, [.int 105, .int 120, .int 0, .int (-1), .int 0, .int (-1)]))] sz)) 1 4 (va_A [(h0, .inr (8, [.int 0, .ref h1, .ref o0, .ref h2, .ref o1, .int 0])), (h1, .inr (0, [.int 5, .ref h3, .int 5])), (h2, .inr (0, [.int 1, .ref h4, .int 1])), (h3, .inl (kc0, 10, .inr (.inr (.inr (.inr (va_up (va_up (va_up (va_up (va_up (fun _ => none) 0 (some h5)) 1 (some h6)) 2 (some h7)) 3 (some h8)) 4 (some h9))))))), (h4, .inl (kc1, 10, .inr (.inr (.inr (.inr (va_up (fun _ => none) 0 (some (z.2.2.1 128)))))))), (h5, .inr (7, [.int 105, .int 120, .int 0, .int (-1), .int 0, .int (-1)])), (h6, .inr (7, [.int 105, .int 120, .int 0, .int (-1), .int 0, .int (-1)])), (h7, .inr (7, [.int 105, .int 120, .int 0, .int (-1), .int 0, .int (-1)])), (h8, .inr (7, [.int 105, .int 120, .int 0, .int (-1), .int 0, .int (-1)])), (h9, .inr (7, [.int 105, .int 120, .int 0, .int (-1), .int 0, .int (-1)]))] sz) := by
  refine Met.ofW (cc := cX9_addTest) (maxL := 2) (ret := (some .int)) (by decide) rfl ?_
  intro p e s m args below meth c s₁ B hml hv
  obtain ⟨rfl, hsz, hP, hK, hD0, hX, hT⟩ := hv
  have hx := B.exec
  have hb := B.bytes
  have hr := B.returns
  have hts0 := atoms_spec (ws := .code yX9_addTest cX9_addTest 2 (some .int) :: wsL_law) B.pre
  have hts := xTail hts0
  have hown : s.vm.findClass RX9 = some m.cls := findClass_of_methodNamed B.named
  have hlocks := B.notSynchronized
  subst hsz
  have hD := hD0.self (sz := s.heap.size)
  generalize hAe : va_A [(h0, .inr (8, [.int 0, .ref h1, .ref o0, .ref h2, .ref o1, .int 0])), (h1, .inr (0, [.int 5, .ref h3, .int 5])), (h2, .inr (0, [.int 1, .ref h4, .int 1])), (h3, .inl (kc0, 10, .inr (.inr (.inr (.inr (va_up (va_up (va_up (va_up (va_up (fun _ => none) 0 (some h5)) 1 (some h6)) 2 (some h7)) 3 (some h8)) 4 (some h9))))))), (h4, .inl (kc1, 10, .inr (.inr (.inr (.inr (va_up (fun _ => none) 0 (some (z.2.2.1 128)))))))), (h5, .inr (7, [.int 105, .int 120, .int 0, .int (-1), .int 0, .int (-1)])), (h6, .inr (7, [.int 105, .int 120, .int 0, .int (-1), .int 0, .int (-1)])), (h7, .inr (7, [.int 105, .int 120, .int 0, .int (-1), .int 0, .int (-1)])), (h8, .inr (7, [.int 105, .int 120, .int 0, .int (-1), .int 0, .int (-1)])), (h9, .inr (7, [.int 105, .int 120, .int 0, .int (-1), .int 0, .int (-1)]))] s.heap.size = A at hD hX ⊢
  have hA : ∀ q : Nat, s.heap.size ≤ q → A q := fun q h => by rw [← hAe]; exact Or.inr h
  have hS : va_S A s.heap s.heap [] := va_S.rf
  have hG : s.heap.size + 0 ≤ s.heap.size := Nat.le_refl _
  have hl := lv_entry ([.ref h0, .int 0]) (n := 2) (Nat.le_of_ble_eq_true rfl)
  rw [lg_entry_eq]
  generalize (lg_sl ([.ref h0, .int 0]) ++ List.replicate (2 - (lg_sl ([.ref h0, .int 0])).length) Slot.unset).toArray = ls at hl ⊢
  have hl : lv_has ls 2 [(0, .ref h0), (1, .int 0)] := hl
  refine lv_aload_n hx hb dX9_addTest_0 rfl (lv_at hl 0 rfl) ?_
  refine lv_iconst (v := 0) hx hb dX9_addTest_1 (by decide) ?_
  refine va_put (D := (dC, dI)) (ci := 8) (v := .int 0) (ty := .int) (C := RX9) (T := TX9) (N := 6) hx hb hts in_X9 tyX9 tyX9_ok nmX9 hown hK hP hD (va_Sre hS) 0 rfl rfl 0 (by decide) (hts _ q_243) (fun _ h9 => h9) rfl (by decide +kernel) rfl rfl (Nat.le_of_ble_eq_true rfl) dX9_addTest_2 (fun H1 _ hP hD hS' => ?_)
  have hG : s.heap.size + 0 ≤ H1.size := Nat.le_trans hG hS'.1
  have hS := va_Str hS hS'
  have hP : va_P (dC, dI) xCl [(h0, .inr (8, [.int 0, .ref h1, .ref o0, .ref h2, .ref o1, .int 0])), (h1, .inr (0, [.int 5, .ref h3, .int 5])), (h2, .inr (0, [.int 1, .ref h4, .int 1])), (h3, .inl (kc0, 10, .inr (.inr (.inr (.inr (va_up (va_up (va_up (va_up (va_up (fun _ => none) 0 (some h5)) 1 (some h6)) 2 (some h7)) 3 (some h8)) 4 (some h9))))))), (h4, .inl (kc1, 10, .inr (.inr (.inr (.inr (va_up (fun _ => none) 0 (some (z.2.2.1 128)))))))), (h5, .inr (7, [.int 105, .int 120, .int 0, .int (-1), .int 0, .int (-1)])), (h6, .inr (7, [.int 105, .int 120, .int 0, .int (-1), .int 0, .int (-1)])), (h7, .inr (7, [.int 105, .int 120, .int 0, .int (-1), .int 0, .int (-1)])), (h8, .inr (7, [.int 105, .int 120, .int 0, .int (-1), .int 0, .int (-1)])), (h9, .inr (7, [.int 105, .int 120, .int 0, .int (-1), .int 0, .int (-1)]))] H1 := hP
  have hD : va_D A [(h0, .inr (8, [.int 0, .ref h1, .ref o0, .ref h2, .ref o1, .int 0])), (h1, .inr (0, [.int 5, .ref h3, .int 5])), (h2, .inr (0, [.int 1, .ref h4, .int 1])), (h3, .inl (kc0, 10, .inr (.inr (.inr (.inr (va_up (va_up (va_up (va_up (va_up (fun _ => none) 0 (some h5)) 1 (some h6)) 2 (some h7)) 3 (some h8)) 4 (some h9))))))), (h4, .inl (kc1, 10, .inr (.inr (.inr (.inr (va_up (fun _ => none) 0 (some (z.2.2.1 128)))))))), (h5, .inr (7, [.int 105, .int 120, .int 0, .int (-1), .int 0, .int (-1)])), (h6, .inr (7, [.int 105, .int 120, .int 0, .int (-1), .int 0, .int (-1)])), (h7, .inr (7, [.int 105, .int 120, .int 0, .int (-1), .int 0, .int (-1)])), (h8, .inr (7, [.int 105, .int 120, .int 0, .int (-1), .int 0, .int (-1)])), (h9, .inr (7, [.int 105, .int 120, .int 0, .int (-1), .int 0, .int (-1)]))] := hD
  refine lv_aload_n hx hb dX9_addTest_5 rfl (lv_at hl 0 rfl) ?_
  refine lv_iload_n hx hb dX9_addTest_6 rfl (lv_at hl 1 rfl) ?_
  refine lv_iconst (v := 0) hx hb dX9_addTest_7 (by decide) ?_
  refine lv_aload_n hx hb dX9_addTest_8 rfl (lv_at hl 0 rfl) ?_
  have hF2 := va_free (wc := [(h0, .inr (8, [.int 0, .ref h1, .ref o0, .ref h2, .ref o1, .int 0])), (h1, .inr (0, [.int 5, .ref h3, .int 5])), (h3, .inl (kc0, 10, .inr (.inr (.inr (.inr (va_up (va_up (va_up (va_up (va_up (fun _ => none) 0 (some h5)) 1 (some h6)) 2 (some h7)) 3 (some h8)) 4 (some h9))))))), (h5, .inr (7, [.int 105, .int 120, .int 0, .int (-1), .int 0, .int (-1)])), (h6, .inr (7, [.int 105, .int 120, .int 0, .int (-1), .int 0, .int (-1)])), (h7, .inr (7, [.int 105, .int 120, .int 0, .int (-1), .int 0, .int (-1)])), (h8, .inr (7, [.int 105, .int 120, .int 0, .int (-1), .int 0, .int (-1)])), (h9, .inr (7, [.int 105, .int 120, .int 0, .int (-1), .int 0, .int (-1)]))]) hD hS hA [0, 1, 3, 5, 6, 7, 8, 9] rfl
  refine va_calli (va_runV (As := []) (rest := [.int 0, .int 0, .ref h0]) ⟨hx, hb, hml, hown, hts⟩ (k487_rows l hl9 dC dI z h0 h1 h3 h5 h6 h7 h8 h9 o0 h2 o1 H1.size kc0) (cwV 0 hts (gV q_371 q_372 q_373 q_60 q_370) rfl rfl rfl (by decide +kernel) ⟨Nat.le_of_ble_eq_true rfl, Nat.le_of_ble_eq_true rfl⟩) ⟨pc_blind, va_recv hK hP (ci := 8) (q0 := 0) rfl rfl, fun U hU hW => ⟨rfl, pc_mk hP hD hK hS hX hT [0, 1, 3, 5, 6, 7, 8, 9] [0] rfl rfl rfl rfl hF2 hU hW⟩⟩ rfl rfl hl.1 rfl (lv_room (Nat.le_of_ble_eq_true rfl)) dX9_addTest_9 ⟨(Nat.le_of_ble_eq_true rfl), (Nat.le_of_ble_eq_true rfl)⟩) hS (fun q9 _ h9 => hF2 q9 h9) hF2 (fun r5 u4 t4 H4 L4 ht4 hvm4 hw4 hB4 hz4 hk4 hS => ?_)
  obtain ⟨hP, hD, hK⟩ := pq_join (wr := [(h2, .inr (0, [.int 1, .ref h4, .int 1])), (h4, .inl (kc1, 10, .inr (.inr (.inr (.inr (va_up (fun _ => none) 0 (some (z.2.2.1 128))))))))]) (tr := [(kc1, .object "java/lang/Object")]) (wz := [(h2, .inr (0, [.int 1, .ref h4, .int 1])), (h4, .inl (kc1, 10, .inr (.inr (.inr (.inr (va_up (fun _ => none) 0 (some (z.2.2.1 128)))))))), (h0, .inr (8, [.int 0, .ref h1, .ref o0, .ref h2, .ref o1, .int 0])), (h1, .inr (0, [.int 5, .ref h3, .int 5])), (h3, .inl (kc0, 10, .inr (.inr (.inr (.inr (va_up (va_up (va_up (va_up (va_up (fun _ => none) 0 (some h5)) 1 (some h6)) 2 (some h7)) 3 (some h8)) 4 (some h9))))))), (h5, .inr (7, [.int 105, .int 120, .int 0, .int (-1), .int 0, .int (-1)])), (h6, .inr (7, [.int 105, .int 120, .int 0, .int (-1), .int 0, .int (-1)])), (h7, .inr (7, [.int 105, .int 120, .int 0, .int (-1), .int 0, .int (-1)])), (h8, .inr (7, [.int 105, .int 120, .int 0, .int (-1), .int 0, .int (-1)])), (h9, .inr (7, [.int 105, .int 120, .int 0, .int (-1), .int 0, .int (-1)]))]) (tz := [(kc1, .object "java/lang/Object"), (kc0, .object "java/lang/Object")]) hP hD hK [0, 1, 3, 5, 6, 7, 8, 9] [2, 4] [1] rfl rfl (by decide) (by decide) rfl hk4 hF2 hB4.1 ht4 hvm4 rfl rfl
  have hG : s.heap.size + 1 ≤ H4.size := va_gr (g := 0) (g1 := 1) hG (by rw [← ht4]; exact hB4.2)
  refine W.eq (g2 := F0 m 12 ls [.int 32, .int 0, .int 0, .ref h0]) (by rw [hw4]) ?_
  refine W.widen (k := 1) (n := 4) (by decide) (by decide) ?_
  refine lv_iconst (v := 1) hx hb dX9_addTest_12 (by decide) ?_
  refine lv_isub hx hb dX9_addTest_13 ?_
  refine lv_topi (fun y6 ey6 => ?_)
  obtain rfl : y6 = 31 := ey6.trans (by decide)
  have hF7 := va_free (wc := []) hD hS hA [] rfl
  refine va_calli (va_runS (As := [.int 0, .int 0, .int 31]) (rest := [.ref h0]) ⟨hx, hb, hml, hown, hts⟩ (k488_in l hl9 dC dI z H4.size) (va_cwS 3 hts (gS q_375 q_376 q_60 q_374) rfl rfl rfl (by decide +kernel) ⟨Nat.le_of_ble_eq_true rfl, Nat.le_of_ble_eq_true rfl⟩) ⟨pc_blind, fun U hU hW => ⟨rfl, pc_mk hP hD hK hS hX hT [] [] rfl rfl rfl rfl hF7 hU hW⟩⟩ rfl rfl hl.1 rfl (lv_room (Nat.le_of_ble_eq_true rfl)) dX9_addTest_14 ⟨(Nat.le_of_ble_eq_true rfl), (Nat.le_of_ble_eq_true rfl)⟩) hS (fun q9 _ h9 => hF7 q9 h9) hF7 (fun r10 u9 t9 H9 L9 ht9 hvm9 hw9 hB9 hz9 hk9 hS => ?_)
  obtain ⟨hP, hD, hK⟩ := pq_join (wr := [(h2, .inr (0, [.int 1, .ref h4, .int 1])), (h4, .inl (kc1, 10, .inr (.inr (.inr (.inr (va_up (fun _ => none) 0 (some (z.2.2.1 128)))))))), (h0, .inr (8, [.int 0, .ref h1, .ref o0, .ref h2, .ref o1, .int 0])), (h1, .inr (0, [.int 5, .ref h3, .int 5])), (h3, .inl (kc0, 10, .inr (.inr (.inr (.inr (va_up (va_up (va_up (va_up (va_up (fun _ => none) 0 (some h5)) 1 (some h6)) 2 (some h7)) 3 (some h8)) 4 (some h9))))))), (h5, .inr (7, [.int 105, .int 120, .int 0, .int (-1), .int 0, .int (-1)])), (h6, .inr (7, [.int 105, .int 120, .int 0, .int (-1), .int 0, .int (-1)])), (h7, .inr (7, [.int 105, .int 120, .int 0, .int (-1), .int 0, .int (-1)])), (h8, .inr (7, [.int 105, .int 120, .int 0, .int (-1), .int 0, .int (-1)])), (h9, .inr (7, [.int 105, .int 120, .int 0, .int (-1), .int 0, .int (-1)]))]) (tr := [(kc1, .object "java/lang/Object"), (kc0, .object "java/lang/Object")]) (wz := [(h2, .inr (0, [.int 1, .ref h4, .int 1])), (h4, .inl (kc1, 10, .inr (.inr (.inr (.inr (va_up (fun _ => none) 0 (some (z.2.2.1 128)))))))), (h0, .inr (8, [.int 0, .ref h1, .ref o0, .ref h2, .ref o1, .int 0])), (h1, .inr (0, [.int 5, .ref h3, .int 5])), (h3, .inl (kc0, 10, .inr (.inr (.inr (.inr (va_up (va_up (va_up (va_up (va_up (fun _ => none) 0 (some h5)) 1 (some h6)) 2 (some h7)) 3 (some h8)) 4 (some h9))))))), (h5, .inr (7, [.int 105, .int 120, .int 0, .int (-1), .int 0, .int (-1)])), (h6, .inr (7, [.int 105, .int 120, .int 0, .int (-1), .int 0, .int (-1)])), (h7, .inr (7, [.int 105, .int 120, .int 0, .int (-1), .int 0, .int (-1)])), (h8, .inr (7, [.int 105, .int 120, .int 0, .int (-1), .int 0, .int (-1)])), (h9, .inr (7, [.int 105, .int 120, .int 0, .int (-1), .int 0, .int (-1)]))]) (tz := [(kc1, .object "java/lang/Object"), (kc0, .object "java/lang/Object")]) hP hD hK [] [0, 1, 2, 3, 4, 5, 6, 7, 8, 9] [0, 1] rfl rfl (by decide) (by decide) rfl hk9 hF7 hB9.1 ht9 hvm9 rfl rfl
  have hG : s.heap.size + 1 ≤ H9.size := Nat.le_trans hG hz9
  refine W.eq (g2 := F0 m 17 ls [.int 1, .ref h0]) (by rw [hw9]) ?_
  refine lv_if_ne (tgt := 24) hx hb dX9_addTest_17 (by decide) (fun _ => ?_) (fun cz => absurd cz (by decide))
  refine lv_iconst (v := 0) hx hb dX9_addTest_24 (by decide) ?_
  refine lv_iconst (v := 1) hx hb dX9_addTest_25 (by decide) ?_
  have hF11 := va_free (wc := [(h0, .inr (8, [.int 0, .ref h1, .ref o0, .ref h2, .ref o1, .int 0]))]) hD hS hA [2] rfl
  refine va_calli (va_runV (As := [.int 0, .int 1]) (rest := []) ⟨hx, hb, hml, hown, hts⟩ (k52_fails l hl9 dC dI z h0 h1 o0 h2 o1 H9.size) (cwV 2 hts (gV q_269 q_270 q_271 q_60 q_268) rfl rfl rfl (by decide +kernel) ⟨Nat.le_of_ble_eq_true rfl, Nat.le_of_ble_eq_true rfl⟩) ⟨pc_blind, va_recv hK hP (ci := 8) (q0 := 2) rfl rfl, fun U hU hW => ⟨rfl, pc_mk hP hD hK hS hX hT [2] [] rfl rfl rfl rfl hF11 hU hW⟩⟩ rfl rfl hl.1 rfl (lv_room (Nat.le_of_ble_eq_true rfl)) dX9_addTest_26 ⟨(Nat.le_of_ble_eq_true rfl), (Nat.le_of_ble_eq_true rfl)⟩) hS (fun q9 _ h9 => hF11 q9 h9) hF11 (fun r14 u13 t13 H13 L13 ht13 hvm13 hw13 hB13 hz13 hk13 hS => ?_)
  obtain ⟨hP, hD, hK⟩ := pq_join (wr := [(h2, .inr (0, [.int 1, .ref h4, .int 1])), (h4, .inl (kc1, 10, .inr (.inr (.inr (.inr (va_up (fun _ => none) 0 (some (z.2.2.1 128)))))))), (h1, .inr (0, [.int 5, .ref h3, .int 5])), (h3, .inl (kc0, 10, .inr (.inr (.inr (.inr (va_up (va_up (va_up (va_up (va_up (fun _ => none) 0 (some h5)) 1 (some h6)) 2 (some h7)) 3 (some h8)) 4 (some h9))))))), (h5, .inr (7, [.int 105, .int 120, .int 0, .int (-1), .int 0, .int (-1)])), (h6, .inr (7, [.int 105, .int 120, .int 0, .int (-1), .int 0, .int (-1)])), (h7, .inr (7, [.int 105, .int 120, .int 0, .int (-1), .int 0, .int (-1)])), (h8, .inr (7, [.int 105, .int 120, .int 0, .int (-1), .int 0, .int (-1)])), (h9, .inr (7, [.int 105, .int 120, .int 0, .int (-1), .int 0, .int (-1)]))]) (tr := [(kc1, .object "java/lang/Object"), (kc0, .object "java/lang/Object")]) (wz := [(h2, .inr (0, [.int 1, .ref h4, .int 1])), (h4, .inl (kc1, 10, .inr (.inr (.inr (.inr (va_up (fun _ => none) 0 (some (z.2.2.1 128)))))))), (h1, .inr (0, [.int 5, .ref h3, .int 5])), (h3, .inl (kc0, 10, .inr (.inr (.inr (.inr (va_up (va_up (va_up (va_up (va_up (fun _ => none) 0 (some h5)) 1 (some h6)) 2 (some h7)) 3 (some h8)) 4 (some h9))))))), (h5, .inr (7, [.int 105, .int 120, .int 0, .int (-1), .int 0, .int (-1)])), (h6, .inr (7, [.int 105, .int 120, .int 0, .int (-1), .int 0, .int (-1)])), (h7, .inr (7, [.int 105, .int 120, .int 0, .int (-1), .int 0, .int (-1)])), (h8, .inr (7, [.int 105, .int 120, .int 0, .int (-1), .int 0, .int (-1)])), (h9, .inr (7, [.int 105, .int 120, .int 0, .int (-1), .int 0, .int (-1)])), (h0, .inr (8, [.int 0, .ref h1, .ref o0, .ref h2, .ref o1, .int 0]))]) (tz := [(kc1, .object "java/lang/Object"), (kc0, .object "java/lang/Object")]) hP hD hK [2] [0, 1, 3, 4, 5, 6, 7, 8, 9] [0, 1] rfl rfl (by decide) (by decide) rfl hk13 hF11 hB13.1 ht13 hvm13 rfl rfl
  have hG : s.heap.size + 1 ≤ H13.size := Nat.le_trans hG hz13
  refine W.eq (g2 := F0 m 29 ls [.int 0]) (by rw [hw13]) ?_
  refine lv_if_ne (tgt := 57) hx hb dX9_addTest_29 (by decide) (fun cz => absurd (by decide) cz) (fun _ => ?_)
  refine lv_aload_n hx hb dX9_addTest_32 rfl (lv_at hl 0 rfl) ?_
  refine lv_aload_n hx hb dX9_addTest_33 rfl (lv_at hl 0 rfl) ?_
  refine va_get (D := (dC, dI)) (ci := 8) (v := .ref h2) (C := RX9) (T := TX9) (N := 6) hx hb hts in_X9 hown hK hP 9 rfl rfl 3 (by decide) (hts _ q_66) (fun _ h9 => h9) rfl dX9_addTest_34 ?_
  have hF15 := va_free (wc := [(h2, .inr (0, [.int 1, .ref h4, .int 1]))]) hD hS hA [0] rfl
  refine va_calli (va_runV (As := []) (rest := [.ref h0]) ⟨hx, hb, hml, hown, hts⟩ (k20_size l hl9 dC dI z h2 h4 H13.size 1 1) (cwV 0 hts (gV q_272 q_77 q_78 q_12 q_75) rfl rfl rfl (by decide +kernel) ⟨Nat.le_of_ble_eq_true rfl, Nat.le_of_ble_eq_true rfl⟩) ⟨pc_blind, va_recv hK hP (ci := 0) (q0 := 0) rfl rfl, fun U hU hW => ⟨rfl, pc_mk hP hD hK hS hX hT [0] [] rfl rfl rfl rfl hF15 hU hW⟩⟩ rfl rfl hl.1 rfl (lv_room (Nat.le_of_ble_eq_true rfl)) dX9_addTest_37 ⟨(Nat.le_of_ble_eq_true rfl), (Nat.le_of_ble_eq_true rfl)⟩) hS (fun q9 _ h9 => hF15 q9 h9) hF15 (fun r18 u17 t17 H17 L17 ht17 hvm17 hw17 hB17 hz17 hk17 hS => ?_)
  obtain ⟨hP, hD, hK⟩ := pq_join (wr := [(h4, .inl (kc1, 10, .inr (.inr (.inr (.inr (va_up (fun _ => none) 0 (some (z.2.2.1 128)))))))), (h1, .inr (0, [.int 5, .ref h3, .int 5])), (h3, .inl (kc0, 10, .inr (.inr (.inr (.inr (va_up (va_up (va_up (va_up (va_up (fun _ => none) 0 (some h5)) 1 (some h6)) 2 (some h7)) 3 (some h8)) 4 (some h9))))))), (h5, .inr (7, [.int 105, .int 120, .int 0, .int (-1), .int 0, .int (-1)])), (h6, .inr (7, [.int 105, .int 120, .int 0, .int (-1), .int 0, .int (-1)])), (h7, .inr (7, [.int 105, .int 120, .int 0, .int (-1), .int 0, .int (-1)])), (h8, .inr (7, [.int 105, .int 120, .int 0, .int (-1), .int 0, .int (-1)])), (h9, .inr (7, [.int 105, .int 120, .int 0, .int (-1), .int 0, .int (-1)])), (h0, .inr (8, [.int 0, .ref h1, .ref o0, .ref h2, .ref o1, .int 0]))]) (tr := [(kc1, .object "java/lang/Object"), (kc0, .object "java/lang/Object")]) (wz := [(h4, .inl (kc1, 10, .inr (.inr (.inr (.inr (va_up (fun _ => none) 0 (some (z.2.2.1 128)))))))), (h1, .inr (0, [.int 5, .ref h3, .int 5])), (h3, .inl (kc0, 10, .inr (.inr (.inr (.inr (va_up (va_up (va_up (va_up (va_up (fun _ => none) 0 (some h5)) 1 (some h6)) 2 (some h7)) 3 (some h8)) 4 (some h9))))))), (h5, .inr (7, [.int 105, .int 120, .int 0, .int (-1), .int 0, .int (-1)])), (h6, .inr (7, [.int 105, .int 120, .int 0, .int (-1), .int 0, .int (-1)])), (h7, .inr (7, [.int 105, .int 120, .int 0, .int (-1), .int 0, .int (-1)])), (h8, .inr (7, [.int 105, .int 120, .int 0, .int (-1), .int 0, .int (-1)])), (h9, .inr (7, [.int 105, .int 120, .int 0, .int (-1), .int 0, .int (-1)])), (h0, .inr (8, [.int 0, .ref h1, .ref o0, .ref h2, .ref o1, .int 0])), (h2, .inr (0, [.int 1, .ref h4, .int 1]))]) (tz := [(kc1, .object "java/lang/Object"), (kc0, .object "java/lang/Object")]) hP hD hK [0] [1, 2, 3, 4, 5, 6, 7, 8, 9] [0, 1] rfl rfl (by decide) (by decide) rfl hk17 hF15 hB17.1 ht17 hvm17 rfl rfl
  have hG : s.heap.size + 1 ≤ H17.size := Nat.le_trans hG hz17
  refine W.eq (g2 := F0 m 40 ls [.int 1, .ref h0]) (by rw [hw17]) ?_
  refine lv_bipush (v := 8) hx hb dX9_addTest_40 (by decide) ?_
  refine lv_icmp_ne (tgt := 49) hx hb dX9_addTest_42 (by decide) (fun _ => ?_) (fun cz => absurd cz (by decide))
  refine lv_iconst (v := 0) hx hb dX9_addTest_49 (by decide) ?_
  refine lv_iconst (v := 2) hx hb dX9_addTest_50 (by decide) ?_
  have hF19 := va_free (wc := [(h0, .inr (8, [.int 0, .ref h1, .ref o0, .ref h2, .ref o1, .int 0]))]) hD hS hA [8] rfl
  refine va_calli (va_runV (As := [.int 0, .int 2]) (rest := []) ⟨hx, hb, hml, hown, hts⟩ (k53_fails l hl9 dC dI z h0 h1 o0 h2 o1 H17.size) (cwV 2 hts (gV q_269 q_270 q_271 q_60 q_268) rfl rfl rfl (by decide +kernel) ⟨Nat.le_of_ble_eq_true rfl, Nat.le_of_ble_eq_true rfl⟩) ⟨pc_blind, va_recv hK hP (ci := 8) (q0 := 8) rfl rfl, fun U hU hW => ⟨rfl, pc_mk hP hD hK hS hX hT [8] [] rfl rfl rfl rfl hF19 hU hW⟩⟩ rfl rfl hl.1 rfl (lv_room (Nat.le_of_ble_eq_true rfl)) dX9_addTest_51 ⟨(Nat.le_of_ble_eq_true rfl), (Nat.le_of_ble_eq_true rfl)⟩) hS (fun q9 _ h9 => hF19 q9 h9) hF19 (fun r22 u21 t21 H21 L21 ht21 hvm21 hw21 hB21 hz21 hk21 hS => ?_)
  obtain ⟨hP, hD, hK⟩ := pq_join (wr := [(h4, .inl (kc1, 10, .inr (.inr (.inr (.inr (va_up (fun _ => none) 0 (some (z.2.2.1 128)))))))), (h1, .inr (0, [.int 5, .ref h3, .int 5])), (h3, .inl (kc0, 10, .inr (.inr (.inr (.inr (va_up (va_up (va_up (va_up (va_up (fun _ => none) 0 (some h5)) 1 (some h6)) 2 (some h7)) 3 (some h8)) 4 (some h9))))))), (h5, .inr (7, [.int 105, .int 120, .int 0, .int (-1), .int 0, .int (-1)])), (h6, .inr (7, [.int 105, .int 120, .int 0, .int (-1), .int 0, .int (-1)])), (h7, .inr (7, [.int 105, .int 120, .int 0, .int (-1), .int 0, .int (-1)])), (h8, .inr (7, [.int 105, .int 120, .int 0, .int (-1), .int 0, .int (-1)])), (h9, .inr (7, [.int 105, .int 120, .int 0, .int (-1), .int 0, .int (-1)])), (h2, .inr (0, [.int 1, .ref h4, .int 1]))]) (tr := [(kc1, .object "java/lang/Object"), (kc0, .object "java/lang/Object")]) (wz := [(h4, .inl (kc1, 10, .inr (.inr (.inr (.inr (va_up (fun _ => none) 0 (some (z.2.2.1 128)))))))), (h1, .inr (0, [.int 5, .ref h3, .int 5])), (h3, .inl (kc0, 10, .inr (.inr (.inr (.inr (va_up (va_up (va_up (va_up (va_up (fun _ => none) 0 (some h5)) 1 (some h6)) 2 (some h7)) 3 (some h8)) 4 (some h9))))))), (h5, .inr (7, [.int 105, .int 120, .int 0, .int (-1), .int 0, .int (-1)])), (h6, .inr (7, [.int 105, .int 120, .int 0, .int (-1), .int 0, .int (-1)])), (h7, .inr (7, [.int 105, .int 120, .int 0, .int (-1), .int 0, .int (-1)])), (h8, .inr (7, [.int 105, .int 120, .int 0, .int (-1), .int 0, .int (-1)])), (h9, .inr (7, [.int 105, .int 120, .int 0, .int (-1), .int 0, .int (-1)])), (h2, .inr (0, [.int 1, .ref h4, .int 1])), (h0, .inr (8, [.int 0, .ref h1, .ref o0, .ref h2, .ref o1, .int 0]))]) (tz := [(kc1, .object "java/lang/Object"), (kc0, .object "java/lang/Object")]) hP hD hK [8] [0, 1, 2, 3, 4, 5, 6, 7, 9] [0, 1] rfl rfl (by decide) (by decide) rfl hk21 hF19 hB21.1 ht21 hvm21 rfl rfl
  have hG : s.heap.size + 1 ≤ H21.size := Nat.le_trans hG hz21
  refine W.eq (g2 := F0 m 54 ls [.int 0]) (by rw [hw21]) ?_
  refine lv_if_eq (tgt := 59) hx hb dX9_addTest_54 (by decide) (fun _ => ?_) (fun cz => absurd (by decide) cz)
  refine lv_aload_n hx hb dX9_addTest_59 rfl (lv_at hl 0 rfl) ?_
  refine va_get (D := (dC, dI)) (ci := 8) (v := .ref h2) (C := RX9) (T := TX9) (N := 6) hx hb hts in_X9 hown hK hP 9 rfl rfl 3 (by decide) (hts _ q_66) (fun _ h9 => h9) rfl dX9_addTest_60 ?_
  refine lv_iload_n hx hb dX9_addTest_63 rfl (lv_at hl 1 rfl) ?_
  have hF23 := va_free (wc := []) hD hS hA [] rfl
  refine va_callr (va_runS (As := [.int 0]) (rest := [.ref h2]) ⟨hx, hb, hml, hown, hts⟩ (k58_valueOf l hl9 dC dI z H21.size) (va_cwS 1 hts (gS q_295 q_296 q_297 q_294) rfl rfl rfl (by decide +kernel) ⟨Nat.le_of_ble_eq_true rfl, Nat.le_of_ble_eq_true rfl⟩) ⟨pc_blind, fun U hU hW => ⟨rfl, pc_mk hP hD hK hS hX hT [] [] rfl rfl rfl rfl hF23 hU hW⟩⟩ rfl rfl hl.1 rfl (lv_room (Nat.le_of_ble_eq_true rfl)) dX9_addTest_64 ⟨(Nat.le_of_ble_eq_true rfl), (Nat.le_of_ble_eq_true rfl)⟩) hS (fun q9 _ h9 => hF23 q9 h9) hF23 (fun u25 r26 t25 H25 L25 ht25 hvm25 hw25 hB25 hz25 hk25 hS => ?_)
  obtain ⟨hr25, hB25⟩ := hB25
  obtain ⟨hP, hD, hK⟩ := pq_join (wr := [(h4, .inl (kc1, 10, .inr (.inr (.inr (.inr (va_up (fun _ => none) 0 (some (z.2.2.1 128)))))))), (h1, .inr (0, [.int 5, .ref h3, .int 5])), (h3, .inl (kc0, 10, .inr (.inr (.inr (.inr (va_up (va_up (va_up (va_up (va_up (fun _ => none) 0 (some h5)) 1 (some h6)) 2 (some h7)) 3 (some h8)) 4 (some h9))))))), (h5, .inr (7, [.int 105, .int 120, .int 0, .int (-1), .int 0, .int (-1)])), (h6, .inr (7, [.int 105, .int 120, .int 0, .int (-1), .int 0, .int (-1)])), (h7, .inr (7, [.int 105, .int 120, .int 0, .int (-1), .int 0, .int (-1)])), (h8, .inr (7, [.int 105, .int 120, .int 0, .int (-1), .int 0, .int (-1)])), (h9, .inr (7, [.int 105, .int 120, .int 0, .int (-1), .int 0, .int (-1)])), (h2, .inr (0, [.int 1, .ref h4, .int 1])), (h0, .inr (8, [.int 0, .ref h1, .ref o0, .ref h2, .ref o1, .int 0]))]) (tr := [(kc1, .object "java/lang/Object"), (kc0, .object "java/lang/Object")]) (wz := [(h4, .inl (kc1, 10, .inr (.inr (.inr (.inr (va_up (fun _ => none) 0 (some (z.2.2.1 128)))))))), (h1, .inr (0, [.int 5, .ref h3, .int 5])), (h3, .inl (kc0, 10, .inr (.inr (.inr (.inr (va_up (va_up (va_up (va_up (va_up (fun _ => none) 0 (some h5)) 1 (some h6)) 2 (some h7)) 3 (some h8)) 4 (some h9))))))), (h5, .inr (7, [.int 105, .int 120, .int 0, .int (-1), .int 0, .int (-1)])), (h6, .inr (7, [.int 105, .int 120, .int 0, .int (-1), .int 0, .int (-1)])), (h7, .inr (7, [.int 105, .int 120, .int 0, .int (-1), .int 0, .int (-1)])), (h8, .inr (7, [.int 105, .int 120, .int 0, .int (-1), .int 0, .int (-1)])), (h9, .inr (7, [.int 105, .int 120, .int 0, .int (-1), .int 0, .int (-1)])), (h2, .inr (0, [.int 1, .ref h4, .int 1])), (h0, .inr (8, [.int 0, .ref h1, .ref o0, .ref h2, .ref o1, .int 0]))]) (tz := [(kc1, .object "java/lang/Object"), (kc0, .object "java/lang/Object")]) hP hD hK [] [0, 1, 2, 3, 4, 5, 6, 7, 8, 9] [0, 1] rfl rfl (by decide) (by decide) rfl hk25 hF23 hB25.1 ht25 hvm25 rfl rfl
  have hG : s.heap.size + 1 ≤ H25.size := Nat.le_trans hG hz25
  refine W.eq (g2 := F0 m 67 ls [.ref (z.2.2.1 128), .ref h2]) (by rw [hr25]) ?_
  have hF27 := va_free (wc := [(h2, .inr (0, [.int 1, .ref h4, .int 1])), (h4, .inl (kc1, 10, .inr (.inr (.inr (.inr (va_up (fun _ => none) 0 (some (z.2.2.1 128))))))))]) hD hS hA [8, 0] rfl
  refine va_calli (va_runV (As := [.ref (z.2.2.1 128)]) (rest := []) ⟨hx, hb, hml, hown, hts⟩ (k498_add l hl9 dC dI z h2 h4 H25.size kc1) (cwV 1 hts (gV q_284 q_128 q_129 q_12 q_126) rfl rfl rfl (by decide +kernel) ⟨Nat.le_of_ble_eq_true rfl, Nat.le_of_ble_eq_true rfl⟩) ⟨pc_blind, va_recv hK hP (ci := 0) (q0 := 8) rfl rfl, fun U hU hW => ⟨rfl, pc_mk hP hD hK hS hX hT [8, 0] [0] rfl rfl rfl rfl hF27 hU hW⟩⟩ rfl rfl hl.1 rfl (lv_room (Nat.le_of_ble_eq_true rfl)) dX9_addTest_67 ⟨(Nat.le_of_ble_eq_true rfl), (Nat.le_of_ble_eq_true rfl)⟩) hS (fun q9 _ h9 => hF27 q9 h9) hF27 (fun r30 u29 t29 H29 L29 ht29 hvm29 hw29 hB29 hz29 hk29 hS => ?_)
  obtain ⟨hP, hD, hK⟩ := pq_join (wr := [(h1, .inr (0, [.int 5, .ref h3, .int 5])), (h3, .inl (kc0, 10, .inr (.inr (.inr (.inr (va_up (va_up (va_up (va_up (va_up (fun _ => none) 0 (some h5)) 1 (some h6)) 2 (some h7)) 3 (some h8)) 4 (some h9))))))), (h5, .inr (7, [.int 105, .int 120, .int 0, .int (-1), .int 0, .int (-1)])), (h6, .inr (7, [.int 105, .int 120, .int 0, .int (-1), .int 0, .int (-1)])), (h7, .inr (7, [.int 105, .int 120, .int 0, .int (-1), .int 0, .int (-1)])), (h8, .inr (7, [.int 105, .int 120, .int 0, .int (-1), .int 0, .int (-1)])), (h9, .inr (7, [.int 105, .int 120, .int 0, .int (-1), .int 0, .int (-1)])), (h0, .inr (8, [.int 0, .ref h1, .ref o0, .ref h2, .ref o1, .int 0]))]) (tr := [(kc0, .object "java/lang/Object")]) (wz := [(h1, .inr (0, [.int 5, .ref h3, .int 5])), (h3, .inl (kc0, 10, .inr (.inr (.inr (.inr (va_up (va_up (va_up (va_up (va_up (fun _ => none) 0 (some h5)) 1 (some h6)) 2 (some h7)) 3 (some h8)) 4 (some h9))))))), (h5, .inr (7, [.int 105, .int 120, .int 0, .int (-1), .int 0, .int (-1)])), (h6, .inr (7, [.int 105, .int 120, .int 0, .int (-1), .int 0, .int (-1)])), (h7, .inr (7, [.int 105, .int 120, .int 0, .int (-1), .int 0, .int (-1)])), (h8, .inr (7, [.int 105, .int 120, .int 0, .int (-1), .int 0, .int (-1)])), (h9, .inr (7, [.int 105, .int 120, .int 0, .int (-1), .int 0, .int (-1)])), (h0, .inr (8, [.int 0, .ref h1, .ref o0, .ref h2, .ref o1, .int 0])), (h2, .inr (0, [.int 2, .ref h4, .int 2])), (h4, .inl (kc1, 10, .inr (.inr (.inr (.inr (va_up (va_up (fun _ => none) 0 (some (z.2.2.1 128))) 1 (some (z.2.2.1 128))))))))]) (tz := [(kc0, .object "java/lang/Object"), (kc1, .object "java/lang/Object")]) hP hD hK [8, 0] [1, 2, 3, 4, 5, 6, 7, 9] [1] rfl rfl (by decide) (by decide) rfl hk29 hF27 hB29.1 ht29 hvm29 rfl rfl
  have hG : s.heap.size + 1 ≤ H29.size := Nat.le_trans hG hz29
  refine W.eq (g2 := F0 m 70 ls [.int 1]) (by rw [hw29]) ?_
  refine lv_pop hx hb dX9_addTest_70 rfl ?_
  refine lv_aload_n hx hb dX9_addTest_71 rfl (lv_at hl 0 rfl) ?_
  refine va_get (D := (dC, dI)) (ci := 8) (v := .ref h2) (C := RX9) (T := TX9) (N := 6) hx hb hts in_X9 hown hK hP 7 rfl rfl 3 (by decide) (hts _ q_66) (fun _ h9 => h9) rfl dX9_addTest_72 ?_
  have hF31 := va_free (wc := [(h2, .inr (0, [.int 2, .ref h4, .int 2]))]) hD hS hA [8] rfl
  refine va_calli (va_runV (As := []) (rest := []) ⟨hx, hb, hml, hown, hts⟩ (k20_size l hl9 dC dI z h2 h4 H29.size 2 2) (cwV 0 hts (gV q_272 q_77 q_78 q_12 q_75) rfl rfl rfl (by decide +kernel) ⟨Nat.le_of_ble_eq_true rfl, Nat.le_of_ble_eq_true rfl⟩) ⟨pc_blind, va_recv hK hP (ci := 0) (q0 := 8) rfl rfl, fun U hU hW => ⟨rfl, pc_mk hP hD hK hS hX hT [8] [] rfl rfl rfl rfl hF31 hU hW⟩⟩ rfl rfl hl.1 rfl (lv_room (Nat.le_of_ble_eq_true rfl)) dX9_addTest_75 ⟨(Nat.le_of_ble_eq_true rfl), (Nat.le_of_ble_eq_true rfl)⟩) hS (fun q9 _ h9 => hF31 q9 h9) hF31 (fun r34 u33 t33 H33 L33 ht33 hvm33 hw33 hB33 hz33 hk33 hS => ?_)
  obtain ⟨hP, hD, hK⟩ := pq_join (wr := [(h1, .inr (0, [.int 5, .ref h3, .int 5])), (h3, .inl (kc0, 10, .inr (.inr (.inr (.inr (va_up (va_up (va_up (va_up (va_up (fun _ => none) 0 (some h5)) 1 (some h6)) 2 (some h7)) 3 (some h8)) 4 (some h9))))))), (h5, .inr (7, [.int 105, .int 120, .int 0, .int (-1), .int 0, .int (-1)])), (h6, .inr (7, [.int 105, .int 120, .int 0, .int (-1), .int 0, .int (-1)])), (h7, .inr (7, [.int 105, .int 120, .int 0, .int (-1), .int 0, .int (-1)])), (h8, .inr (7, [.int 105, .int 120, .int 0, .int (-1), .int 0, .int (-1)])), (h9, .inr (7, [.int 105, .int 120, .int 0, .int (-1), .int 0, .int (-1)])), (h0, .inr (8, [.int 0, .ref h1, .ref o0, .ref h2, .ref o1, .int 0])), (h4, .inl (kc1, 10, .inr (.inr (.inr (.inr (va_up (va_up (fun _ => none) 0 (some (z.2.2.1 128))) 1 (some (z.2.2.1 128))))))))]) (tr := [(kc0, .object "java/lang/Object"), (kc1, .object "java/lang/Object")]) (wz := [(h1, .inr (0, [.int 5, .ref h3, .int 5])), (h3, .inl (kc0, 10, .inr (.inr (.inr (.inr (va_up (va_up (va_up (va_up (va_up (fun _ => none) 0 (some h5)) 1 (some h6)) 2 (some h7)) 3 (some h8)) 4 (some h9))))))), (h5, .inr (7, [.int 105, .int 120, .int 0, .int (-1), .int 0, .int (-1)])), (h6, .inr (7, [.int 105, .int 120, .int 0, .int (-1), .int 0, .int (-1)])), (h7, .inr (7, [.int 105, .int 120, .int 0, .int (-1), .int 0, .int (-1)])), (h8, .inr (7, [.int 105, .int 120, .int 0, .int (-1), .int 0, .int (-1)])), (h9, .inr (7, [.int 105, .int 120, .int 0, .int (-1), .int 0, .int (-1)])), (h0, .inr (8, [.int 0, .ref h1, .ref o0, .ref h2, .ref o1, .int 0])), (h4, .inl (kc1, 10, .inr (.inr (.inr (.inr (va_up (va_up (fun _ => none) 0 (some (z.2.2.1 128))) 1 (some (z.2.2.1 128)))))))), (h2, .inr (0, [.int 2, .ref h4, .int 2]))]) (tz := [(kc0, .object "java/lang/Object"), (kc1, .object "java/lang/Object")]) hP hD hK [8] [0, 1, 2, 3, 4, 5, 6, 7, 9] [0, 1] rfl rfl (by decide) (by decide) rfl hk33 hF31 hB33.1 ht33 hvm33 rfl rfl
  have hG : s.heap.size + 1 ≤ H33.size := Nat.le_trans hG hz33
  refine W.eq (g2 := F0 m 78 ls [.int 2]) (by rw [hw33]) ?_
  exact W.iret (v := 2) hx hb hr (fun t9 ht9 hW9 => ⟨⟨2, (), rfl, rfl, ⟨pq_mk (wc := [(h0, .inr (8, [.int 0, .ref h1, .ref o0, .ref h2, .ref o1, .int 0])), (h1, .inr (0, [.int 5, .ref h3, .int 5])), (h2, .inr (0, [.int 2, .ref h4, .int 2])), (h3, .inl (kc0, 10, .inr (.inr (.inr (.inr (va_up (va_up (va_up (va_up (va_up (fun _ => none) 0 (some h5)) 1 (some h6)) 2 (some h7)) 3 (some h8)) 4 (some h9))))))), (h4, .inl (kc1, 10, .inr (.inr (.inr (.inr (va_up (va_up (fun _ => none) 0 (some (z.2.2.1 128))) 1 (some (z.2.2.1 128)))))))), (h5, .inr (7, [.int 105, .int 120, .int 0, .int (-1), .int 0, .int (-1)])), (h6, .inr (7, [.int 105, .int 120, .int 0, .int (-1), .int 0, .int (-1)])), (h7, .inr (7, [.int 105, .int 120, .int 0, .int (-1), .int 0, .int (-1)])), (h8, .inr (7, [.int 105, .int 120, .int 0, .int (-1), .int 0, .int (-1)])), (h9, .inr (7, [.int 105, .int 120, .int 0, .int (-1), .int 0, .int (-1)]))]) (tc := [(kc0, .object "java/lang/Object"), (kc1, .object "java/lang/Object")]) hP hD hK [7, 0, 9, 1, 8, 2, 3, 4, 5, 6] [0, 1] rfl rfl rfl rfl ht9 hW9, by rw [ht9]; exact Nat.le_trans (Nat.add_le_add_left (Nat.le_of_ble_eq_true rfl) _) hG⟩⟩, hS.F ht9⟩) hS.2.2 dX9_addTest_78

set_option maxHeartbeats 4000000 in
set_option maxRecDepth 100000 in
theorem k500_rowCount (l : Launch) (hl9 : l.stackTraces = false) (dC : Nat → ClassId) (dI : Nat → Nat → Nat) (z : XZ) (h0 h1 h2 : Nat) (o0 o1 o2 o3 o4 : Nat) (sz : Nat) : Met l yX4_rowCount (.code yX4_rowCount cX4_rowCount 1 (some .int) :: wsL_law) ({ frames := 1, cells := 0, slots := 0, locals := 20 }) (va_Pc [.ref h0] (PC (dC, dI) [(h0, .inr (4, [.ref h1, .ref o0, .int 2])), (h1, .inr (2, [.ref o1, .ref h2, .ref o2, .ref o3])), (h2, .inr (0, [.int 5, .ref o4, .int 5]))] [] sz z)) (va_Qi (fun (r : Int32) (_ : Unit) => r = 32) (fun (_ : Unit) (t : State) => PG (dC, dI) [(h0, .inr (4, [.ref h1, .ref o0, .int 2])), (h1, .inr (2, [.ref o1, .ref h2, .ref o2, .ref o3])), (h2, .inr (0, [.int 5, .ref o4, .int 5]))] [] (va_A [(h0, .inr (4, [.ref h1, .ref o0, .int 2])), (h1, .inr (2, [.ref o1, .ref h2, .ref o2, .ref o3])), (h2, .inr (0, [.int 5, .ref o4, .int 5]))] sz) sz 0 t) (va_A [(h0, .inr (4, [.ref h1, .ref o0, .int 2])), (h1, .inr (2, [.ref o1, .ref h2, .ref o2, .ref o3])), (h2, .inr (0, [.int 5, .ref o4, .int 5]))] sz)) 0 0 (va_A [(h0, .inr (4, [.ref h1, .ref o0, .int 2])), (h1, .inr (2, [.ref o1, .ref h2, .ref o2, .ref o3])), (h2, .inr (0, [.int 5, .ref o4, .int 5]))] sz) := by
  refine Met.ofW (cc := cX4_rowCount) (maxL := 1) (ret := (some .int)) (by decide) rfl ?_
  intro p e s m args below meth c s₁ B hml hv
  obtain ⟨rfl, hsz, hP, hK, hD0, hX, hT⟩ := hv
  have hx := B.exec
  have hb := B.bytes
  have hr := B.returns
  have hts0 := atoms_spec (ws := .code yX4_rowCount cX4_rowCount 1 (some .int) :: wsL_law) B.pre
  have hts := xTail hts0
  have hown : s.vm.findClass RX4 = some m.cls := findClass_of_methodNamed B.named
  have hlocks := B.notSynchronized
  subst hsz
  have hD := hD0.self (sz := s.heap.size)
  generalize hAe : va_A [(h0, .inr (4, [.ref h1, .ref o0, .int 2])), (h1, .inr (2, [.ref o1, .ref h2, .ref o2, .ref o3])), (h2, .inr (0, [.int 5, .ref o4, .int 5]))] s.heap.size = A at hD hX ⊢
  have hA : ∀ q : Nat, s.heap.size ≤ q → A q := fun q h => by rw [← hAe]; exact Or.inr h
  have hS : va_S A s.heap s.heap [] := va_S.rf
  have hG : s.heap.size + 0 ≤ s.heap.size := Nat.le_refl _
  have hl := lv_entry ([.ref h0]) (n := 1) (Nat.le_of_ble_eq_true rfl)
  rw [lg_entry_eq]
  generalize (lg_sl ([.ref h0]) ++ List.replicate (1 - (lg_sl ([.ref h0])).length) Slot.unset).toArray = ls at hl ⊢
  have hl : lv_has ls 1 [(0, .ref h0)] := hl
  refine lv_iconst (v := 1) hx hb dX4_rowCount_0 (by decide) ?_
  refine lv_aload_n hx hb dX4_rowCount_1 rfl (lv_at hl 0 rfl) ?_
  refine va_get (D := (dC, dI)) (ci := 4) (v := .ref h1) (C := RX4) (T := TX4) (N := 3) hx hb hts in_X4 hown hK hP 0 rfl rfl 0 (by decide) (hts _ q_50) (fun _ h9 => h9) rfl dX4_rowCount_2 ?_
  refine va_get (D := (dC, dI)) (ci := 2) (v := .ref h2) (C := RX0) (T := TX0) (N := 4) hx hb hts in_X0 hown hK hP 1 rfl rfl 1 (by decide) (hts _ q_347) (fun _ h9 => h9) rfl dX4_rowCount_5 ?_
  have hF1 := va_free (wc := [(h2, .inr (0, [.int 5, .ref o4, .int 5]))]) hD hS hA [2] rfl
  refine va_calli (va_runV (As := []) (rest := [.int 1]) ⟨hx, hb, hml, hown, hts⟩ (k20_size l hl9 dC dI z h2 o4 s.heap.size 5 5) (cwV 0 hts (gV q_348 q_77 q_78 q_12 q_75) rfl rfl rfl (by decide +kernel) ⟨Nat.le_of_ble_eq_true rfl, Nat.le_of_ble_eq_true rfl⟩) ⟨pc_blind, va_recv hK hP (ci := 0) (q0 := 2) rfl rfl, fun U hU hW => ⟨rfl, pc_mk hP hD hK hS hX hT [2] [] rfl rfl rfl rfl hF1 hU hW⟩⟩ rfl rfl hl.1 rfl (lv_room (Nat.le_of_ble_eq_true rfl)) dX4_rowCount_8 ⟨(Nat.le_of_ble_eq_true rfl), (Nat.le_of_ble_eq_true rfl)⟩) hS (fun q9 _ h9 => hF1 q9 h9) hF1 (fun r4 u3 t3 H3 L3 ht3 hvm3 hw3 hB3 hz3 hk3 hS => ?_)
  obtain ⟨hP, hD, hK⟩ := pq_join (wr := [(h0, .inr (4, [.ref h1, .ref o0, .int 2])), (h1, .inr (2, [.ref o1, .ref h2, .ref o2, .ref o3]))]) (tr := []) (wz := [(h0, .inr (4, [.ref h1, .ref o0, .int 2])), (h1, .inr (2, [.ref o1, .ref h2, .ref o2, .ref o3])), (h2, .inr (0, [.int 5, .ref o4, .int 5]))]) (tz := []) hP hD hK [2] [0, 1] [] rfl rfl (by decide) (by decide) rfl hk3 hF1 hB3.1 ht3 hvm3 rfl rfl
  have hG : s.heap.size + 0 ≤ H3.size := Nat.le_trans hG hz3
  refine W.eq (g2 := F0 m 11 ls [.int 5, .int 1]) (by rw [hw3]) ?_
  refine lv_ishl hx hb dX4_rowCount_11 ?_
  refine lv_topi (fun y5 ey5 => ?_)
  obtain rfl : y5 = 32 := ey5.trans (by decide)
  exact W.iret (v := 32) hx hb hr (fun t9 ht9 hW9 => ⟨⟨32, (), rfl, rfl, ⟨pq_mk (wc := [(h0, .inr (4, [.ref h1, .ref o0, .int 2])), (h1, .inr (2, [.ref o1, .ref h2, .ref o2, .ref o3])), (h2, .inr (0, [.int 5, .ref o4, .int 5]))]) (tc := []) hP hD hK [0, 1, 2] [] rfl rfl rfl rfl ht9 hW9, by rw [ht9]; exact Nat.le_trans (Nat.add_le_add_left (Nat.le_of_ble_eq_true rfl) _) hG⟩⟩, hS.F ht9⟩) hS.2.2 dX4_rowCount_12

set_option maxHeartbeats 4000000 in
set_option maxRecDepth 100000 in
theorem k501_requireRow (l : Launch) (hl9 : l.stackTraces = false) (dC : Nat → ClassId) (dI : Nat → Nat → Nat) (z : XZ) (h0 h1 h2 h3 : Nat) (o0 o1 o2 o3 o4 o5 : Nat) (sz : Nat) : Met l yX6_requireRow (.code yX6_requireRow cX6_requireRow 2 none :: wsL_law) ({ frames := 2, cells := 0, slots := 0, locals := 40 }) (va_Pc [.ref h0, .int 0] (PC (dC, dI) [(h0, .inr (6, [.ref h1, .ref o0, .ref h2])), (h1, .inr (2, [.ref o1, .ref h3, .ref o2, .ref o3])), (h2, .inr (4, [.ref h1, .ref o4, .int 2])), (h3, .inr (0, [.int 5, .ref o5, .int 5]))] [] sz z)) (va_Qv (fun (_ : Unit) => True) (fun (_ : Unit) (t : State) => PG (dC, dI) [(h0, .inr (6, [.ref h1, .ref o0, .ref h2])), (h1, .inr (2, [.ref o1, .ref h3, .ref o2, .ref o3])), (h2, .inr (4, [.ref h1, .ref o4, .int 2])), (h3, .inr (0, [.int 5, .ref o5, .int 5]))] [] (va_A [(h0, .inr (6, [.ref h1, .ref o0, .ref h2])), (h1, .inr (2, [.ref o1, .ref h3, .ref o2, .ref o3])), (h2, .inr (4, [.ref h1, .ref o4, .int 2])), (h3, .inr (0, [.int 5, .ref o5, .int 5]))] sz) sz 0 t) (va_A [(h0, .inr (6, [.ref h1, .ref o0, .ref h2])), (h1, .inr (2, [.ref o1, .ref h3, .ref o2, .ref o3])), (h2, .inr (4, [.ref h1, .ref o4, .int 2])), (h3, .inr (0, [.int 5, .ref o5, .int 5]))] sz)) 0 0 (va_A [(h0, .inr (6, [.ref h1, .ref o0, .ref h2])), (h1, .inr (2, [.ref o1, .ref h3, .ref o2, .ref o3])), (h2, .inr (4, [.ref h1, .ref o4, .int 2])), (h3, .inr (0, [.int 5, .ref o5, .int 5]))] sz) := by
  refine Met.ofW (cc := cX6_requireRow) (maxL := 2) (ret := none) (by decide) rfl ?_
  intro p e s m args below meth c s₁ B hml hv
  obtain ⟨rfl, hsz, hP, hK, hD0, hX, hT⟩ := hv
  have hx := B.exec
  have hb := B.bytes
  have hr := B.returns
  have hts0 := atoms_spec (ws := .code yX6_requireRow cX6_requireRow 2 none :: wsL_law) B.pre
  have hts := xTail hts0
  have hown : s.vm.findClass RX6 = some m.cls := findClass_of_methodNamed B.named
  have hlocks := B.notSynchronized
  subst hsz
  have hD := hD0.self (sz := s.heap.size)
  generalize hAe : va_A [(h0, .inr (6, [.ref h1, .ref o0, .ref h2])), (h1, .inr (2, [.ref o1, .ref h3, .ref o2, .ref o3])), (h2, .inr (4, [.ref h1, .ref o4, .int 2])), (h3, .inr (0, [.int 5, .ref o5, .int 5]))] s.heap.size = A at hD hX ⊢
  have hA : ∀ q : Nat, s.heap.size ≤ q → A q := fun q h => by rw [← hAe]; exact Or.inr h
  have hS : va_S A s.heap s.heap [] := va_S.rf
  have hG : s.heap.size + 0 ≤ s.heap.size := Nat.le_refl _
  have hl := lv_entry ([.ref h0, .int 0]) (n := 2) (Nat.le_of_ble_eq_true rfl)
  rw [lg_entry_eq]
  generalize (lg_sl ([.ref h0, .int 0]) ++ List.replicate (2 - (lg_sl ([.ref h0, .int 0])).length) Slot.unset).toArray = ls at hl ⊢
  have hl : lv_has ls 2 [(0, .ref h0), (1, .int 0)] := hl
  refine lv_iload_n hx hb dX6_requireRow_0 rfl (lv_at hl 1 rfl) ?_
  refine lv_if_lt (tgt := 15) hx hb dX6_requireRow_1 (by decide) (fun cz => absurd cz (by decide)) (fun _ => ?_)
  refine lv_iload_n hx hb dX6_requireRow_4 rfl (lv_at hl 1 rfl) ?_
  refine lv_aload_n hx hb dX6_requireRow_5 rfl (lv_at hl 0 rfl) ?_
  refine va_get (D := (dC, dI)) (ci := 6) (v := .ref h2) (C := RX6) (T := TX6) (N := 3) hx hb hts in_X6 hown hK hP 0 rfl rfl 2 (by decide) (hts _ q_54) (fun _ h9 => h9) rfl dX6_requireRow_6 ?_
  have hF1 := va_free (wc := [(h2, .inr (4, [.ref h1, .ref o4, .int 2])), (h1, .inr (2, [.ref o1, .ref h3, .ref o2, .ref o3])), (h3, .inr (0, [.int 5, .ref o5, .int 5]))]) hD hS hA [2, 1, 3] rfl
  refine va_calli (va_runV (As := []) (rest := [.int 0]) ⟨hx, hb, hml, hown, hts⟩ (k500_rowCount l hl9 dC dI z h2 h1 h3 o4 o1 o2 o3 o5 s.heap.size) (cwV 0 hts (gV q_350 q_351 q_352 q_46 q_349) rfl rfl rfl (by decide +kernel) ⟨Nat.le_of_ble_eq_true rfl, Nat.le_of_ble_eq_true rfl⟩) ⟨pc_blind, va_recv hK hP (ci := 4) (q0 := 2) rfl rfl, fun U hU hW => ⟨rfl, pc_mk hP hD hK hS hX hT [2, 1, 3] [] rfl rfl rfl rfl hF1 hU hW⟩⟩ rfl rfl hl.1 rfl (lv_room (Nat.le_of_ble_eq_true rfl)) dX6_requireRow_9 ⟨(Nat.le_of_ble_eq_true rfl), (Nat.le_of_ble_eq_true rfl)⟩) hS (fun q9 _ h9 => hF1 q9 h9) hF1 (fun r4 u3 t3 H3 L3 ht3 hvm3 hw3 hB3 hz3 hk3 hS => ?_)
  obtain ⟨hP, hD, hK⟩ := pq_join (wr := [(h0, .inr (6, [.ref h1, .ref o0, .ref h2]))]) (tr := []) (wz := [(h0, .inr (6, [.ref h1, .ref o0, .ref h2])), (h2, .inr (4, [.ref h1, .ref o4, .int 2])), (h1, .inr (2, [.ref o1, .ref h3, .ref o2, .ref o3])), (h3, .inr (0, [.int 5, .ref o5, .int 5]))]) (tz := []) hP hD hK [2, 1, 3] [0] [] rfl rfl (by decide) (by decide) rfl hk3 hF1 hB3.1 ht3 hvm3 rfl rfl
  have hG : s.heap.size + 0 ≤ H3.size := Nat.le_trans hG hz3
  refine W.eq (g2 := F0 m 12 ls [.int 32, .int 0]) (by rw [hw3]) ?_
  refine lv_icmp_lt (tgt := 26) hx hb dX6_requireRow_12 (by decide) (fun _ => ?_) (fun cz => absurd (by decide) cz)
  exact W.vret hx hb hr (fun t9 ht9 hW9 => ⟨⟨(), rfl, trivial, ⟨pq_mk (wc := [(h0, .inr (6, [.ref h1, .ref o0, .ref h2])), (h1, .inr (2, [.ref o1, .ref h3, .ref o2, .ref o3])), (h2, .inr (4, [.ref h1, .ref o4, .int 2])), (h3, .inr (0, [.int 5, .ref o5, .int 5]))]) (tc := []) hP hD hK [0, 2, 1, 3] [] rfl rfl rfl rfl ht9 hW9, by rw [ht9]; exact Nat.le_trans (Nat.add_le_add_left (Nat.le_of_ble_eq_true rfl) _) hG⟩⟩, hS.F ht9⟩) hS.2.2 dX6_requireRow_26

set_option maxHeartbeats 4000000 in
set_option maxRecDepth 100000 in
theorem k502_keepTest (l : Launch) (hl9 : l.stackTraces = false) (dC : Nat → ClassId) (dI : Nat → Nat → Nat) (z : XZ) (h0 h1 : Nat) (o0 : Nat) (sz : Nat) (kc0 : ClassId) : Met l yX4_keepTest (.code yX4_keepTest cX4_keepTest 2 none :: wsL_law) ({ frames := 0, cells := 0, slots := 0, locals := 0 }) (va_Pc [.ref h0, .int 0] (PC (dC, dI) [(h0, .inr (4, [.ref o0, .ref h1, .int 2])), (h1, .inl (kc0, 8, .inl (upd (upd (fun _ => 0) 0 0) 1 0)))] [(kc0, .int)] sz z)) (va_Qv (fun (_ : Unit) => True) (fun (_ : Unit) (t : State) => PG (dC, dI) [(h0, .inr (4, [.ref o0, .ref h1, .int 3])), (h1, .inl (kc0, 8, .inl (upd (upd (upd (fun _ => 0) 0 0) 1 0) 2 0)))] [(kc0, .int)] (va_A [(h0, .inr (4, [.ref o0, .ref h1, .int 2])), (h1, .inl (kc0, 8, .inl (upd (upd (fun _ => 0) 0 0) 1 0)))] sz) sz 0 t) (va_A [(h0, .inr (4, [.ref o0, .ref h1, .int 2])), (h1, .inl (kc0, 8, .inl (upd (upd (fun _ => 0) 0 0) 1 0)))] sz)) 0 0 (va_A [(h0, .inr (4, [.ref o0, .ref h1, .int 2])), (h1, .inl (kc0, 8, .inl (upd (upd (fun _ => 0) 0 0) 1 0)))] sz) := by
  refine Met.ofW (cc := cX4_keepTest) (maxL := 2) (ret := none) (by decide) rfl ?_
  intro p e s m args below meth c s₁ B hml hv
  obtain ⟨rfl, hsz, hP, hK, hD0, hX, hT⟩ := hv
  have hx := B.exec
  have hb := B.bytes
  have hr := B.returns
  have hts0 := atoms_spec (ws := .code yX4_keepTest cX4_keepTest 2 none :: wsL_law) B.pre
  have hts := xTail hts0
  have hown : s.vm.findClass RX4 = some m.cls := findClass_of_methodNamed B.named
  have hlocks := B.notSynchronized
  subst hsz
  have hD := hD0.self (sz := s.heap.size)
  generalize hAe : va_A [(h0, .inr (4, [.ref o0, .ref h1, .int 2])), (h1, .inl (kc0, 8, .inl (upd (upd (fun _ => 0) 0 0) 1 0)))] s.heap.size = A at hD hX ⊢
  have hA : ∀ q : Nat, s.heap.size ≤ q → A q := fun q h => by rw [← hAe]; exact Or.inr h
  have hS : va_S A s.heap s.heap [] := va_S.rf
  have hG : s.heap.size + 0 ≤ s.heap.size := Nat.le_refl _
  have hl := lv_entry ([.ref h0, .int 0]) (n := 2) (Nat.le_of_ble_eq_true rfl)
  rw [lg_entry_eq]
  generalize (lg_sl ([.ref h0, .int 0]) ++ List.replicate (2 - (lg_sl ([.ref h0, .int 0])).length) Slot.unset).toArray = ls at hl ⊢
  have hl : lv_has ls 2 [(0, .ref h0), (1, .int 0)] := hl
  refine lv_aload_n hx hb dX4_keepTest_0 rfl (lv_at hl 0 rfl) ?_
  refine va_get (D := (dC, dI)) (ci := 4) (v := .int 2) (C := RX4) (T := TX4) (N := 3) hx hb hts in_X4 hown hK hP 0 rfl rfl 2 (by decide) (hts _ q_358) (fun _ h9 => h9) rfl dX4_keepTest_1 ?_
  refine lv_aload_n hx hb dX4_keepTest_4 rfl (lv_at hl 0 rfl) ?_
  refine va_get (D := (dC, dI)) (ci := 4) (v := .ref h1) (C := RX4) (T := TX4) (N := 3) hx hb hts in_X4 hown hK hP 0 rfl rfl 1 (by decide) (hts _ q_49) (fun _ h9 => h9) rfl dX4_keepTest_5 ?_
  refine va_alen hx hb hK hP 1 0 rfl rfl (v := 8) rfl dX4_keepTest_8 ?_
  refine lv_icmp_ge (tgt := 32) hx hb dX4_keepTest_9 (by decide) (fun cz => absurd cz (by decide)) (fun _ => ?_)
  refine lv_aload_n hx hb dX4_keepTest_12 rfl (lv_at hl 0 rfl) ?_
  refine va_get (D := (dC, dI)) (ci := 4) (v := .ref h1) (C := RX4) (T := TX4) (N := 3) hx hb hts in_X4 hown hK hP 0 rfl rfl 1 (by decide) (hts _ q_49) (fun _ h9 => h9) rfl dX4_keepTest_13 ?_
  refine lv_aload_n hx hb dX4_keepTest_16 rfl (lv_at hl 0 rfl) ?_
  refine va_get (D := (dC, dI)) (ci := 4) (v := .int 2) (C := RX4) (T := TX4) (N := 3) hx hb hts in_X4 hown hK hP 0 rfl rfl 2 (by decide) (hts _ q_358) (fun _ h9 => h9) rfl dX4_keepTest_17 ?_
  refine lv_iload_n hx hb dX4_keepTest_20 rfl (lv_at hl 1 rfl) ?_
  refine va_iast hx hb hK hP hD (va_Sre hS) 1 0 rfl rfl (i := 2) (by unfold vp_in; decide) dX4_keepTest_21 (fun H1 _ hP hD hS' => ?_)
  have hG : s.heap.size + 0 ≤ H1.size := Nat.le_trans hG hS'.1
  have hS := va_Str hS hS'
  have hP : va_P (dC, dI) xCl [(h0, .inr (4, [.ref o0, .ref h1, .int 2])), (h1, .inl (kc0, 8, .inl (upd (upd (upd (fun _ => 0) 0 0) 1 0) 2 0)))] H1 := hP
  have hD : va_D A [(h0, .inr (4, [.ref o0, .ref h1, .int 2])), (h1, .inl (kc0, 8, .inl (upd (upd (upd (fun _ => 0) 0 0) 1 0) 2 0)))] := hD
  refine lv_aload_n hx hb dX4_keepTest_22 rfl (lv_at hl 0 rfl) ?_
  refine lv_dup hx hb dX4_keepTest_23 rfl ?_
  refine va_get (D := (dC, dI)) (ci := 4) (v := .int 2) (C := RX4) (T := TX4) (N := 3) hx hb hts in_X4 hown hK hP 0 rfl rfl 2 (by decide) (hts _ q_358) (fun _ h9 => h9) rfl dX4_keepTest_24 ?_
  refine lv_iconst (v := 1) hx hb dX4_keepTest_27 (by decide) ?_
  refine lv_iadd hx hb dX4_keepTest_28 ?_
  refine lv_topi (fun y2 ey2 => ?_)
  obtain rfl : y2 = 3 := ey2.trans (by decide)
  refine va_put (D := (dC, dI)) (ci := 4) (v := .int 3) (ty := .int) (C := RX4) (T := TX4) (N := 3) hx hb hts in_X4 tyX4 tyX4_ok nmX4 hown hK hP hD (va_Sre hS) 0 rfl rfl 2 (by decide) (hts _ q_358) (fun _ h9 => h9) rfl (by decide +kernel) rfl rfl (Nat.le_of_ble_eq_true rfl) dX4_keepTest_29 (fun H3 _ hP hD hS' => ?_)
  have hG : s.heap.size + 0 ≤ H3.size := Nat.le_trans hG hS'.1
  have hS := va_Str hS hS'
  have hP : va_P (dC, dI) xCl [(h0, .inr (4, [.ref o0, .ref h1, .int 3])), (h1, .inl (kc0, 8, .inl (upd (upd (upd (fun _ => 0) 0 0) 1 0) 2 0)))] H3 := hP
  have hD : va_D A [(h0, .inr (4, [.ref o0, .ref h1, .int 3])), (h1, .inl (kc0, 8, .inl (upd (upd (upd (fun _ => 0) 0 0) 1 0) 2 0)))] := hD
  exact W.vret hx hb hr (fun t9 ht9 hW9 => ⟨⟨(), rfl, trivial, ⟨pq_mk (wc := [(h0, .inr (4, [.ref o0, .ref h1, .int 3])), (h1, .inl (kc0, 8, .inl (upd (upd (upd (fun _ => 0) 0 0) 1 0) 2 0)))]) (tc := [(kc0, .int)]) hP hD hK [0, 1] [0] rfl rfl rfl rfl ht9 hW9, by rw [ht9]; exact Nat.le_trans (Nat.add_le_add_left (Nat.le_of_ble_eq_true rfl) _) hG⟩⟩, hS.F ht9⟩) hS.2.2 dX4_keepTest_32

set_option maxHeartbeats 4000000 in
set_option maxRecDepth 100000 in
theorem k503_addTest (l : Launch) (hl9 : l.stackTraces = false) (dC : Nat → ClassId) (dI : Nat → Nat → Nat) (z : XZ) (h0 h1 h2 h3 h4 : Nat) (o0 o1 o2 o3 o4 : Nat) (sz : Nat) (kc0 : ClassId) : Met l yX6_addTest (.code yX6_addTest cX6_addTest 2 (some .int) :: wsL_law) ({ frames := 3, cells := 0, slots := 0, locals := 61 }) (va_Pc [.ref h0, .int 0] (PC (dC, dI) [(h0, .inr (6, [.ref h1, .ref o0, .ref h2])), (h1, .inr (2, [.ref o1, .ref h3, .ref o2, .ref o3])), (h2, .inr (4, [.ref h1, .ref h4, .int 2])), (h3, .inr (0, [.int 5, .ref o4, .int 5])), (h4, .inl (kc0, 8, .inl (upd (upd (fun _ => 0) 0 0) 1 0)))] [(kc0, .int)] sz z)) (va_Qi (fun (r : Int32) (_ : Unit) => r = 3) (fun (_ : Unit) (t : State) => PG (dC, dI) [(h0, .inr (6, [.ref h1, .ref o0, .ref h2])), (h1, .inr (2, [.ref o1, .ref h3, .ref o2, .ref o3])), (h2, .inr (4, [.ref h1, .ref h4, .int 3])), (h3, .inr (0, [.int 5, .ref o4, .int 5])), (h4, .inl (kc0, 8, .inl (upd (upd (upd (fun _ => 0) 0 0) 1 0) 2 0)))] [(kc0, .int)] (va_A [(h0, .inr (6, [.ref h1, .ref o0, .ref h2])), (h1, .inr (2, [.ref o1, .ref h3, .ref o2, .ref o3])), (h2, .inr (4, [.ref h1, .ref h4, .int 2])), (h3, .inr (0, [.int 5, .ref o4, .int 5])), (h4, .inl (kc0, 8, .inl (upd (upd (fun _ => 0) 0 0) 1 0)))] sz) sz 0 t) (va_A [(h0, .inr (6, [.ref h1, .ref o0, .ref h2])), (h1, .inr (2, [.ref o1, .ref h3, .ref o2, .ref o3])), (h2, .inr (4, [.ref h1, .ref h4, .int 2])), (h3, .inr (0, [.int 5, .ref o4, .int 5])), (h4, .inl (kc0, 8, .inl (upd (upd (fun _ => 0) 0 0) 1 0)))] sz)) 0 0 (va_A [(h0, .inr (6, [.ref h1, .ref o0, .ref h2])), (h1, .inr (2, [.ref o1, .ref h3, .ref o2, .ref o3])), (h2, .inr (4, [.ref h1, .ref h4, .int 2])), (h3, .inr (0, [.int 5, .ref o4, .int 5])), (h4, .inl (kc0, 8, .inl (upd (upd (fun _ => 0) 0 0) 1 0)))] sz) := by
  refine Met.ofW (cc := cX6_addTest) (maxL := 2) (ret := (some .int)) (by decide) rfl ?_
  intro p e s m args below meth c s₁ B hml hv
  obtain ⟨rfl, hsz, hP, hK, hD0, hX, hT⟩ := hv
  have hx := B.exec
  have hb := B.bytes
  have hr := B.returns
  have hts0 := atoms_spec (ws := .code yX6_addTest cX6_addTest 2 (some .int) :: wsL_law) B.pre
  have hts := xTail hts0
  have hown : s.vm.findClass RX6 = some m.cls := findClass_of_methodNamed B.named
  have hlocks := B.notSynchronized
  subst hsz
  have hD := hD0.self (sz := s.heap.size)
  generalize hAe : va_A [(h0, .inr (6, [.ref h1, .ref o0, .ref h2])), (h1, .inr (2, [.ref o1, .ref h3, .ref o2, .ref o3])), (h2, .inr (4, [.ref h1, .ref h4, .int 2])), (h3, .inr (0, [.int 5, .ref o4, .int 5])), (h4, .inl (kc0, 8, .inl (upd (upd (fun _ => 0) 0 0) 1 0)))] s.heap.size = A at hD hX ⊢
  have hA : ∀ q : Nat, s.heap.size ≤ q → A q := fun q h => by rw [← hAe]; exact Or.inr h
  have hS : va_S A s.heap s.heap [] := va_S.rf
  have hG : s.heap.size + 0 ≤ s.heap.size := Nat.le_refl _
  have hl := lv_entry ([.ref h0, .int 0]) (n := 2) (Nat.le_of_ble_eq_true rfl)
  rw [lg_entry_eq]
  generalize (lg_sl ([.ref h0, .int 0]) ++ List.replicate (2 - (lg_sl ([.ref h0, .int 0])).length) Slot.unset).toArray = ls at hl ⊢
  have hl : lv_has ls 2 [(0, .ref h0), (1, .int 0)] := hl
  refine lv_aload_n hx hb dX6_addTest_0 rfl (lv_at hl 0 rfl) ?_
  refine lv_iload_n hx hb dX6_addTest_1 rfl (lv_at hl 1 rfl) ?_
  have hF1 := va_free (wc := [(h0, .inr (6, [.ref h1, .ref o0, .ref h2])), (h1, .inr (2, [.ref o1, .ref h3, .ref o2, .ref o3])), (h2, .inr (4, [.ref h1, .ref h4, .int 2])), (h3, .inr (0, [.int 5, .ref o4, .int 5]))]) hD hS hA [0, 1, 2, 3] rfl
  refine va_callv (va_runV (As := [.int 0]) (rest := []) ⟨hx, hb, hml, hown, hts⟩ (k501_requireRow l hl9 dC dI z h0 h1 h2 h3 o0 o1 o2 o3 h4 o4 s.heap.size) (cwV 1 hts (gV q_354 q_355 q_356 q_2 q_353) rfl rfl rfl (by decide +kernel) ⟨Nat.le_of_ble_eq_true rfl, Nat.le_of_ble_eq_true rfl⟩) ⟨pc_blind, va_recv hK hP (ci := 6) (q0 := 0) rfl rfl, fun U hU hW => ⟨rfl, pc_mk hP hD hK hS hX hT [0, 1, 2, 3] [] rfl rfl rfl rfl hF1 hU hW⟩⟩ rfl rfl hl.1 rfl (lv_room (Nat.le_of_ble_eq_true rfl)) dX6_addTest_2 ⟨(Nat.le_of_ble_eq_true rfl), (Nat.le_of_ble_eq_true rfl)⟩) hS (fun q9 _ h9 => hF1 q9 h9) hF1 (fun u3 t3 H3 L3 ht3 hvm3 hw3 hB3 hz3 hk3 hS => ?_)
  obtain ⟨hP, hD, hK⟩ := pq_join (wr := [(h4, .inl (kc0, 8, .inl (upd (upd (fun _ => 0) 0 0) 1 0)))]) (tr := [(kc0, .int)]) (wz := [(h4, .inl (kc0, 8, .inl (upd (upd (fun _ => 0) 0 0) 1 0))), (h0, .inr (6, [.ref h1, .ref o0, .ref h2])), (h1, .inr (2, [.ref o1, .ref h3, .ref o2, .ref o3])), (h2, .inr (4, [.ref h1, .ref h4, .int 2])), (h3, .inr (0, [.int 5, .ref o4, .int 5]))]) (tz := [(kc0, .int)]) hP hD hK [0, 1, 2, 3] [4] [0] rfl rfl (by decide) (by decide) rfl hk3 hF1 hB3.1 ht3 hvm3 rfl rfl
  have hG : s.heap.size + 0 ≤ H3.size := Nat.le_trans hG hz3
  refine lv_aload_n hx hb dX6_addTest_5 rfl (lv_at hl 0 rfl) ?_
  refine va_get (D := (dC, dI)) (ci := 6) (v := .ref h2) (C := RX6) (T := TX6) (N := 3) hx hb hts in_X6 hown hK hP 1 rfl rfl 2 (by decide) (hts _ q_54) (fun _ h9 => h9) rfl dX6_addTest_6 ?_
  refine va_get (D := (dC, dI)) (ci := 4) (v := .int 2) (C := RX4) (T := TX4) (N := 3) hx hb hts in_X4 hown hK hP 3 rfl rfl 2 (by decide) (hts _ q_357) (fun _ h9 => h9) rfl dX6_addTest_9 ?_
  refine lv_bipush (v := 8) hx hb dX6_addTest_12 (by decide) ?_
  refine lv_icmp_lt (tgt := 27) hx hb dX6_addTest_14 (by decide) (fun _ => ?_) (fun cz => absurd (by decide) cz)
  refine lv_aload_n hx hb dX6_addTest_27 rfl (lv_at hl 0 rfl) ?_
  refine va_get (D := (dC, dI)) (ci := 6) (v := .ref h2) (C := RX6) (T := TX6) (N := 3) hx hb hts in_X6 hown hK hP 1 rfl rfl 2 (by decide) (hts _ q_54) (fun _ h9 => h9) rfl dX6_addTest_28 ?_
  refine lv_iload_n hx hb dX6_addTest_31 rfl (lv_at hl 1 rfl) ?_
  have hF5 := va_free (wc := [(h2, .inr (4, [.ref h1, .ref h4, .int 2])), (h4, .inl (kc0, 8, .inl (upd (upd (fun _ => 0) 0 0) 1 0)))]) hD hS hA [3, 0] rfl
  refine va_callv (va_runV (As := [.int 0]) (rest := []) ⟨hx, hb, hml, hown, hts⟩ (k502_keepTest l hl9 dC dI z h2 h4 h1 H3.size kc0) (cwV 1 hts (gV q_360 q_361 q_362 q_46 q_359) rfl rfl rfl (by decide +kernel) ⟨Nat.le_of_ble_eq_true rfl, Nat.le_of_ble_eq_true rfl⟩) ⟨pc_blind, va_recv hK hP (ci := 4) (q0 := 3) rfl rfl, fun U hU hW => ⟨rfl, pc_mk hP hD hK hS hX hT [3, 0] [0] rfl rfl rfl rfl hF5 hU hW⟩⟩ rfl rfl hl.1 rfl (lv_room (Nat.le_of_ble_eq_true rfl)) dX6_addTest_32 ⟨(Nat.le_of_ble_eq_true rfl), (Nat.le_of_ble_eq_true rfl)⟩) hS (fun q9 _ h9 => hF5 q9 h9) hF5 (fun u7 t7 H7 L7 ht7 hvm7 hw7 hB7 hz7 hk7 hS => ?_)
  obtain ⟨hP, hD, hK⟩ := pq_join (wr := [(h0, .inr (6, [.ref h1, .ref o0, .ref h2])), (h1, .inr (2, [.ref o1, .ref h3, .ref o2, .ref o3])), (h3, .inr (0, [.int 5, .ref o4, .int 5]))]) (tr := []) (wz := [(h0, .inr (6, [.ref h1, .ref o0, .ref h2])), (h1, .inr (2, [.ref o1, .ref h3, .ref o2, .ref o3])), (h3, .inr (0, [.int 5, .ref o4, .int 5])), (h2, .inr (4, [.ref h1, .ref h4, .int 3])), (h4, .inl (kc0, 8, .inl (upd (upd (upd (fun _ => 0) 0 0) 1 0) 2 0)))]) (tz := [(kc0, .int)]) hP hD hK [3, 0] [1, 2, 4] [] rfl rfl (by decide) (by decide) rfl hk7 hF5 hB7.1 ht7 hvm7 rfl rfl
  have hG : s.heap.size + 0 ≤ H7.size := Nat.le_trans hG hz7
  refine lv_aload_n hx hb dX6_addTest_35 rfl (lv_at hl 0 rfl) ?_
  refine va_get (D := (dC, dI)) (ci := 6) (v := .ref h2) (C := RX6) (T := TX6) (N := 3) hx hb hts in_X6 hown hK hP 0 rfl rfl 2 (by decide) (hts _ q_54) (fun _ h9 => h9) rfl dX6_addTest_36 ?_
  refine va_get (D := (dC, dI)) (ci := 4) (v := .int 3) (C := RX4) (T := TX4) (N := 3) hx hb hts in_X4 hown hK hP 3 rfl rfl 2 (by decide) (hts _ q_357) (fun _ h9 => h9) rfl dX6_addTest_39 ?_
  exact W.iret (v := 3) hx hb hr (fun t9 ht9 hW9 => ⟨⟨3, (), rfl, rfl, ⟨pq_mk (wc := [(h0, .inr (6, [.ref h1, .ref o0, .ref h2])), (h1, .inr (2, [.ref o1, .ref h3, .ref o2, .ref o3])), (h2, .inr (4, [.ref h1, .ref h4, .int 3])), (h3, .inr (0, [.int 5, .ref o4, .int 5])), (h4, .inl (kc0, 8, .inl (upd (upd (upd (fun _ => 0) 0 0) 1 0) 2 0)))]) (tc := [(kc0, .int)]) hP hD hK [0, 1, 3, 2, 4] [0] rfl rfl rfl rfl ht9 hW9, by rw [ht9]; exact Nat.le_trans (Nat.add_le_add_left (Nat.le_of_ble_eq_true rfl) _) hG⟩⟩, hS.F ht9⟩) hS.2.2 dX6_addTest_42

set_option maxHeartbeats 4000000 in
set_option maxRecDepth 100000 in
theorem k504_addTest (l : Launch) (hl9 : l.stackTraces = false) (dC : Nat → ClassId) (dI : Nat → Nat → Nat) (z : XZ) (h0 h1 h2 h3 h4 h5 : Nat) (o0 o1 o2 o3 o4 : Nat) (sz : Nat) (kc0 kc1 : ClassId) : Met l yL_addTest (.codeWith yL_addTest cL_addTest 4 (some .int) [(0, 9, 12, 64), (0, 9, 15, 15)] :: wsL_law) ({ frames := 4, cells := 0, slots := 0, locals := 82 }) (va_Pc [.ref h0, .int 0, .ref h1] (PC (dC, dI) [(h0, .inr (6, [.ref h2, .ref o0, .ref h3])), (h1, .inl (kc0, 1, .inr (.inl (vp_updL (fun _ => 0) 0 2)))), (h2, .inr (2, [.ref o1, .ref h4, .ref o2, .ref o3])), (h3, .inr (4, [.ref h2, .ref h5, .int 2])), (h4, .inr (0, [.int 5, .ref o4, .int 5])), (h5, .inl (kc1, 8, .inl (upd (upd (fun _ => 0) 0 0) 1 0)))] [(kc0, .long), (kc1, .int)] sz z)) (va_Qi (fun (r : Int32) (_ : Unit) => r = 0) (fun (_ : Unit) (t : State) => PG (dC, dI) [(h0, .inr (6, [.ref h2, .ref o0, .ref h3])), (h1, .inl (kc0, 1, .inr (.inl (vp_updL (fun _ => 0) 0 3)))), (h2, .inr (2, [.ref o1, .ref h4, .ref o2, .ref o3])), (h3, .inr (4, [.ref h2, .ref h5, .int 3])), (h4, .inr (0, [.int 5, .ref o4, .int 5])), (h5, .inl (kc1, 8, .inl (upd (upd (upd (fun _ => 0) 0 0) 1 0) 2 0)))] [(kc0, .long), (kc1, .int)] (va_A [(h0, .inr (6, [.ref h2, .ref o0, .ref h3])), (h1, .inl (kc0, 1, .inr (.inl (vp_updL (fun _ => 0) 0 2)))), (h2, .inr (2, [.ref o1, .ref h4, .ref o2, .ref o3])), (h3, .inr (4, [.ref h2, .ref h5, .int 2])), (h4, .inr (0, [.int 5, .ref o4, .int 5])), (h5, .inl (kc1, 8, .inl (upd (upd (fun _ => 0) 0 0) 1 0)))] sz) sz 0 t) (va_A [(h0, .inr (6, [.ref h2, .ref o0, .ref h3])), (h1, .inl (kc0, 1, .inr (.inl (vp_updL (fun _ => 0) 0 2)))), (h2, .inr (2, [.ref o1, .ref h4, .ref o2, .ref o3])), (h3, .inr (4, [.ref h2, .ref h5, .int 2])), (h4, .inr (0, [.int 5, .ref o4, .int 5])), (h5, .inl (kc1, 8, .inl (upd (upd (fun _ => 0) 0 0) 1 0)))] sz)) 0 0 (va_A [(h0, .inr (6, [.ref h2, .ref o0, .ref h3])), (h1, .inl (kc0, 1, .inr (.inl (vp_updL (fun _ => 0) 0 2)))), (h2, .inr (2, [.ref o1, .ref h4, .ref o2, .ref o3])), (h3, .inr (4, [.ref h2, .ref h5, .int 2])), (h4, .inr (0, [.int 5, .ref o4, .int 5])), (h5, .inl (kc1, 8, .inl (upd (upd (fun _ => 0) 0 0) 1 0)))] sz) := by
  refine va_MetW (cc := cL_addTest) (maxL := 4) (ret := (some .int)) (hh := [(0, 9, 12, 64), (0, 9, 15, 15)]) (by decide) rfl ?_
  intro p e s m args below meth c s₁ B hml hv
  obtain ⟨rfl, hsz, hP, hK, hD0, hX, hT⟩ := hv
  have hx := B.exec
  have hb := B.bytes
  have hr := B.returns
  have hts0 := atoms_spec (ws := .codeWith yL_addTest cL_addTest 4 (some .int) [(0, 9, 12, 64), (0, 9, 15, 15)] :: wsL_law) B.pre
  have htab := vx_table (x := yL_addTest) B (hts0 _ List.mem_cons_self)
  have hts := xTail hts0
  have hown : s.vm.findClass RL = some m.cls := findClass_of_methodNamed B.named
  have hlocks := B.notSynchronized
  subst hsz
  have hD := hD0.self (sz := s.heap.size)
  generalize hAe : va_A [(h0, .inr (6, [.ref h2, .ref o0, .ref h3])), (h1, .inl (kc0, 1, .inr (.inl (vp_updL (fun _ => 0) 0 2)))), (h2, .inr (2, [.ref o1, .ref h4, .ref o2, .ref o3])), (h3, .inr (4, [.ref h2, .ref h5, .int 2])), (h4, .inr (0, [.int 5, .ref o4, .int 5])), (h5, .inl (kc1, 8, .inl (upd (upd (fun _ => 0) 0 0) 1 0)))] s.heap.size = A at hD hX ⊢
  have hA : ∀ q : Nat, s.heap.size ≤ q → A q := fun q h => by rw [← hAe]; exact Or.inr h
  have hS : va_S A s.heap s.heap [] := va_S.rf
  have hG : s.heap.size + 0 ≤ s.heap.size := Nat.le_refl _
  have hl := lv_entry ([.ref h0, .int 0, .ref h1]) (n := 4) (Nat.le_of_ble_eq_true rfl)
  rw [lg_entry_eq]
  generalize (lg_sl ([.ref h0, .int 0, .ref h1]) ++ List.replicate (4 - (lg_sl ([.ref h0, .int 0, .ref h1])).length) Slot.unset).toArray = ls at hl ⊢
  have hl : lv_has ls 4 [(0, .ref h0), (1, .int 0), (2, .ref h1)] := hl
  refine lv_aload_n hx hb dL_addTest_0 rfl (lv_at hl 2 rfl) ?_
  refine lv_iconst (v := 0) hx hb dL_addTest_1 (by decide) ?_
  refine lv_aload_n hx hb dL_addTest_2 rfl (lv_at hl 0 rfl) ?_
  refine lv_iload_n hx hb dL_addTest_3 rfl (lv_at hl 1 rfl) ?_
  have hF1 := va_free (wc := [(h0, .inr (6, [.ref h2, .ref o0, .ref h3])), (h2, .inr (2, [.ref o1, .ref h4, .ref o2, .ref o3])), (h3, .inr (4, [.ref h2, .ref h5, .int 2])), (h4, .inr (0, [.int 5, .ref o4, .int 5])), (h5, .inl (kc1, 8, .inl (upd (upd (fun _ => 0) 0 0) 1 0)))]) hD hS hA [0, 2, 3, 4, 5] rfl
  refine va_calli (va_runV (As := [.int 0]) (rest := [.int 0, .ref h1]) ⟨hx, hb, hml, hown, hts⟩ (k503_addTest l hl9 dC dI z h0 h2 h3 h4 h5 o0 o1 o2 o3 o4 s.heap.size kc1) (cwV 1 hts (gV q_364 q_365 q_366 q_2 q_363) rfl rfl rfl (by decide +kernel) ⟨Nat.le_of_ble_eq_true rfl, Nat.le_of_ble_eq_true rfl⟩) ⟨pc_blind, va_recv hK hP (ci := 6) (q0 := 0) rfl rfl, fun U hU hW => ⟨rfl, pc_mk hP hD hK hS hX hT [0, 2, 3, 4, 5] [1] rfl rfl rfl rfl hF1 hU hW⟩⟩ rfl rfl hl.1 rfl (lv_room (Nat.le_of_ble_eq_true rfl)) dL_addTest_4 ⟨(Nat.le_of_ble_eq_true rfl), (Nat.le_of_ble_eq_true rfl)⟩) hS (fun q9 _ h9 => hF1 q9 h9) hF1 (fun r4 u3 t3 H3 L3 ht3 hvm3 hw3 hB3 hz3 hk3 hS => ?_)
  obtain ⟨hP, hD, hK⟩ := pq_join (wr := [(h1, .inl (kc0, 1, .inr (.inl (vp_updL (fun _ => 0) 0 2))))]) (tr := [(kc0, .long)]) (wz := [(h1, .inl (kc0, 1, .inr (.inl (vp_updL (fun _ => 0) 0 2)))), (h0, .inr (6, [.ref h2, .ref o0, .ref h3])), (h2, .inr (2, [.ref o1, .ref h4, .ref o2, .ref o3])), (h3, .inr (4, [.ref h2, .ref h5, .int 3])), (h4, .inr (0, [.int 5, .ref o4, .int 5])), (h5, .inl (kc1, 8, .inl (upd (upd (upd (fun _ => 0) 0 0) 1 0) 2 0)))]) (tz := [(kc0, .long), (kc1, .int)]) hP hD hK [0, 2, 3, 4, 5] [1] [0] rfl rfl (by decide) (by decide) rfl hk3 hF1 hB3.1 ht3 hvm3 rfl rfl
  have hG : s.heap.size + 0 ≤ H3.size := Nat.le_trans hG hz3
  refine W.eq (g2 := F0 m 7 ls [.int 3, .int 0, .ref h1]) (by rw [hw3]) ?_
  refine lv_i2l (v := 3) hx hb dL_addTest_7 (by decide) ?_
  refine va_last hx hb hK hP hD (va_Sre hS) 0 0 rfl rfl (i := 0) (by unfold vp_in; decide) dL_addTest_8 (fun H5 _ hP hD hS' => ?_)
  have hG : s.heap.size + 0 ≤ H5.size := Nat.le_trans hG hS'.1
  have hS := va_Str hS hS'
  have hP : va_P (dC, dI) xCl [(h1, .inl (kc0, 1, .inr (.inl (vp_updL (vp_updL (fun _ => 0) 0 2) 0 3)))), (h0, .inr (6, [.ref h2, .ref o0, .ref h3])), (h2, .inr (2, [.ref o1, .ref h4, .ref o2, .ref o3])), (h3, .inr (4, [.ref h2, .ref h5, .int 3])), (h4, .inr (0, [.int 5, .ref o4, .int 5])), (h5, .inl (kc1, 8, .inl (upd (upd (upd (fun _ => 0) 0 0) 1 0) 2 0)))] H5 := hP
  have hD : va_D A [(h1, .inl (kc0, 1, .inr (.inl (vp_updL (vp_updL (fun _ => 0) 0 2) 0 3)))), (h0, .inr (6, [.ref h2, .ref o0, .ref h3])), (h2, .inr (2, [.ref o1, .ref h4, .ref o2, .ref o3])), (h3, .inr (4, [.ref h2, .ref h5, .int 3])), (h4, .inr (0, [.int 5, .ref o4, .int 5])), (h5, .inl (kc1, 8, .inl (upd (upd (upd (fun _ => 0) 0 0) 1 0) 2 0)))] := hD
  refine lv_goto (tgt := 18) hx hb dL_addTest_9 (by decide) ?_
  refine lv_iconst (v := 0) hx hb dL_addTest_18 (by decide) ?_
  have hu6 : (vp_updL (vp_updL (fun _ => 0) 0 2) 0 3) = (vp_updL (fun _ => 0) 0 3) := by funext j; by_cases g0 : j = 0; (subst g0; rfl); simp only [vp_updL, g0, if_false]
  rw [hu6] at hP hD
  have hP : va_P (dC, dI) xCl [(h1, .inl (kc0, 1, .inr (.inl (vp_updL (fun _ => 0) 0 3)))), (h0, .inr (6, [.ref h2, .ref o0, .ref h3])), (h2, .inr (2, [.ref o1, .ref h4, .ref o2, .ref o3])), (h3, .inr (4, [.ref h2, .ref h5, .int 3])), (h4, .inr (0, [.int 5, .ref o4, .int 5])), (h5, .inl (kc1, 8, .inl (upd (upd (upd (fun _ => 0) 0 0) 1 0) 2 0)))] H5 := hP
  have hD : va_D A [(h1, .inl (kc0, 1, .inr (.inl (vp_updL (fun _ => 0) 0 3)))), (h0, .inr (6, [.ref h2, .ref o0, .ref h3])), (h2, .inr (2, [.ref o1, .ref h4, .ref o2, .ref o3])), (h3, .inr (4, [.ref h2, .ref h5, .int 3])), (h4, .inr (0, [.int 5, .ref o4, .int 5])), (h5, .inl (kc1, 8, .inl (upd (upd (upd (fun _ => 0) 0 0) 1 0) 2 0)))] := hD
  exact W.iret (v := 0) hx hb hr (fun t9 ht9 hW9 => ⟨⟨0, (), rfl, rfl, ⟨pq_mk (wc := [(h0, .inr (6, [.ref h2, .ref o0, .ref h3])), (h1, .inl (kc0, 1, .inr (.inl (vp_updL (fun _ => 0) 0 3)))), (h2, .inr (2, [.ref o1, .ref h4, .ref o2, .ref o3])), (h3, .inr (4, [.ref h2, .ref h5, .int 3])), (h4, .inr (0, [.int 5, .ref o4, .int 5])), (h5, .inl (kc1, 8, .inl (upd (upd (upd (fun _ => 0) 0 0) 1 0) 2 0)))]) (tc := [(kc0, .long), (kc1, .int)]) hP hD hK [1, 0, 2, 3, 4, 5] [0, 1] rfl rfl rfl rfl ht9 hW9, by rw [ht9]; exact Nat.le_trans (Nat.add_le_add_left (Nat.le_of_ble_eq_true rfl) _) hG⟩⟩, hS.F ht9⟩) hS.2.2 dL_addTest_19

set_option maxHeartbeats 4000000 in
set_option maxRecDepth 100000 in
theorem k505_add (l : Launch) (hl9 : l.stackTraces = false) (dC : Nat → ClassId) (dI : Nat → Nat → Nat) (z : XZ) (h0 h1 : Nat) (sz : Nat) (kc0 : ClassId) : Met l yJx4a65c_add_72be8 (.code yJx4a65c_add_72be8 cJx4a65c_add_72be8 4 none :: wsL_law) ({ frames := 0, cells := 0, slots := 0, locals := 0 }) (va_Pc [.ref h0, .ref (z.2.2.1 128), .ref h1, .int 2] (PC (dC, dI) [(h0, .inr (0, [.int 3, .ref h1, .int 2])), (h1, .inl (kc0, 10, .inr (.inr (.inr (.inr (va_up (va_up (fun _ => none) 0 (some (z.2.2.1 128))) 1 (some (z.2.2.1 128))))))))] [(kc0, .object "java/lang/Object")] sz z)) (va_Qv (fun (_ : Unit) => True) (fun (_ : Unit) (t : State) => PG (dC, dI) [(h0, .inr (0, [.int 3, .ref h1, .int 3])), (h1, .inl (kc0, 10, .inr (.inr (.inr (.inr (va_up (va_up (va_up (fun _ => none) 0 (some (z.2.2.1 128))) 1 (some (z.2.2.1 128))) 2 (some (z.2.2.1 128))))))))] [(kc0, .object "java/lang/Object")] (va_A [(h0, .inr (0, [.int 3, .ref h1, .int 2])), (h1, .inl (kc0, 10, .inr (.inr (.inr (.inr (va_up (va_up (fun _ => none) 0 (some (z.2.2.1 128))) 1 (some (z.2.2.1 128))))))))] sz) sz 0 t) (va_A [(h0, .inr (0, [.int 3, .ref h1, .int 2])), (h1, .inl (kc0, 10, .inr (.inr (.inr (.inr (va_up (va_up (fun _ => none) 0 (some (z.2.2.1 128))) 1 (some (z.2.2.1 128))))))))] sz)) 0 0 (va_A [(h0, .inr (0, [.int 3, .ref h1, .int 2])), (h1, .inl (kc0, 10, .inr (.inr (.inr (.inr (va_up (va_up (fun _ => none) 0 (some (z.2.2.1 128))) 1 (some (z.2.2.1 128))))))))] sz) := by
  refine Met.ofW (cc := cJx4a65c_add_72be8) (maxL := 4) (ret := none) (by decide) rfl ?_
  intro p e s m args below meth c s₁ B hml hv
  obtain ⟨rfl, hsz, hP, hK, hD0, hX, hT⟩ := hv
  have hx := B.exec
  have hb := B.bytes
  have hr := B.returns
  have hts0 := atoms_spec (ws := .code yJx4a65c_add_72be8 cJx4a65c_add_72be8 4 none :: wsL_law) B.pre
  have hts := xTail hts0
  have hown : s.vm.findClass RJx4a65c = some m.cls := findClass_of_methodNamed B.named
  have hlocks := B.notSynchronized
  subst hsz
  have hD := hD0.self (sz := s.heap.size)
  generalize hAe : va_A [(h0, .inr (0, [.int 3, .ref h1, .int 2])), (h1, .inl (kc0, 10, .inr (.inr (.inr (.inr (va_up (va_up (fun _ => none) 0 (some (z.2.2.1 128))) 1 (some (z.2.2.1 128))))))))] s.heap.size = A at hD hX ⊢
  have hA : ∀ q : Nat, s.heap.size ≤ q → A q := fun q h => by rw [← hAe]; exact Or.inr h
  have hS : va_S A s.heap s.heap [] := va_S.rf
  have hG : s.heap.size + 0 ≤ s.heap.size := Nat.le_refl _
  have hl := lv_entry ([.ref h0, .ref (z.2.2.1 128), .ref h1, .int 2]) (n := 4) (Nat.le_of_ble_eq_true rfl)
  rw [lg_entry_eq]
  generalize (lg_sl ([.ref h0, .ref (z.2.2.1 128), .ref h1, .int 2]) ++ List.replicate (4 - (lg_sl ([.ref h0, .ref (z.2.2.1 128), .ref h1, .int 2])).length) Slot.unset).toArray = ls at hl ⊢
  have hl : lv_has ls 4 [(0, .ref h0), (1, .ref (z.2.2.1 128)), (2, .ref h1), (3, .int 2)] := hl
  refine lv_iload_n hx hb dJx4a65c_add_72be8_0 rfl (lv_at hl 3 rfl) ?_
  refine lv_aload_n hx hb dJx4a65c_add_72be8_1 rfl (lv_at hl 2 rfl) ?_
  refine va_alen hx hb hK hP 1 0 rfl rfl (v := 10) rfl dJx4a65c_add_72be8_2 ?_
  refine lv_icmp_ne (tgt := 11) hx hb dJx4a65c_add_72be8_3 (by decide) (fun _ => ?_) (fun cz => absurd cz (by decide))
  refine lv_aload_n hx hb dJx4a65c_add_72be8_11 rfl (lv_at hl 2 rfl) ?_
  refine lv_iload_n hx hb dJx4a65c_add_72be8_12 rfl (lv_at hl 3 rfl) ?_
  refine lv_aload_n hx hb dJx4a65c_add_72be8_13 rfl (lv_at hl 1 rfl) ?_
  refine vb_astq (E := "java/lang/Object") (C := "java/lang/Integer") hx hb hK hP hD (va_Sre hS) 1 0 rfl rfl (va_Orecv (hX.2.2.1.1.1 128 (by decide)) hS) (vb_asgC (hT.2.1.1 ("java/lang/Integer", "java/lang/Object") (by decide))) (i := 2) (by unfold vp_in; decide) dJx4a65c_add_72be8_14 (fun H1 _ hP hD hS' => ?_)
  have hG : s.heap.size + 0 ≤ H1.size := Nat.le_trans hG hS'.1
  have hS := va_Str hS hS'
  have hP : va_P (dC, dI) xCl [(h0, .inr (0, [.int 3, .ref h1, .int 2])), (h1, .inl (kc0, 10, .inr (.inr (.inr (.inr (va_up (va_up (va_up (fun _ => none) 0 (some (z.2.2.1 128))) 1 (some (z.2.2.1 128))) 2 (some (z.2.2.1 128))))))))] H1 := hP
  have hD : va_D A [(h0, .inr (0, [.int 3, .ref h1, .int 2])), (h1, .inl (kc0, 10, .inr (.inr (.inr (.inr (va_up (va_up (va_up (fun _ => none) 0 (some (z.2.2.1 128))) 1 (some (z.2.2.1 128))) 2 (some (z.2.2.1 128))))))))] := hD
  refine lv_aload_n hx hb dJx4a65c_add_72be8_15 rfl (lv_at hl 0 rfl) ?_
  refine lv_iload_n hx hb dJx4a65c_add_72be8_16 rfl (lv_at hl 3 rfl) ?_
  refine lv_iconst (v := 1) hx hb dJx4a65c_add_72be8_17 (by decide) ?_
  refine lv_iadd hx hb dJx4a65c_add_72be8_18 ?_
  refine lv_topi (fun y2 ey2 => ?_)
  obtain rfl : y2 = 3 := ey2.trans (by decide)
  refine va_put (D := (dC, dI)) (ci := 0) (v := .int 3) (ty := .int) (C := RJx4a65c) (T := TJx4a65c) (N := 3) hx hb hts in_Jx4a65c tyJx4a65c tyJx4a65c_ok nmJx4a65c hown hK hP hD (va_Sre hS) 0 rfl rfl 2 (by decide) (hts _ q_74) (fun _ h9 => h9) rfl (by decide +kernel) rfl rfl (Nat.le_of_ble_eq_true rfl) dJx4a65c_add_72be8_19 (fun H3 _ hP hD hS' => ?_)
  have hG : s.heap.size + 0 ≤ H3.size := Nat.le_trans hG hS'.1
  have hS := va_Str hS hS'
  have hP : va_P (dC, dI) xCl [(h0, .inr (0, [.int 3, .ref h1, .int 3])), (h1, .inl (kc0, 10, .inr (.inr (.inr (.inr (va_up (va_up (va_up (fun _ => none) 0 (some (z.2.2.1 128))) 1 (some (z.2.2.1 128))) 2 (some (z.2.2.1 128))))))))] H3 := hP
  have hD : va_D A [(h0, .inr (0, [.int 3, .ref h1, .int 3])), (h1, .inl (kc0, 10, .inr (.inr (.inr (.inr (va_up (va_up (va_up (fun _ => none) 0 (some (z.2.2.1 128))) 1 (some (z.2.2.1 128))) 2 (some (z.2.2.1 128))))))))] := hD
  exact W.vret hx hb hr (fun t9 ht9 hW9 => ⟨⟨(), rfl, trivial, ⟨pq_mk (wc := [(h0, .inr (0, [.int 3, .ref h1, .int 3])), (h1, .inl (kc0, 10, .inr (.inr (.inr (.inr (va_up (va_up (va_up (fun _ => none) 0 (some (z.2.2.1 128))) 1 (some (z.2.2.1 128))) 2 (some (z.2.2.1 128))))))))]) (tc := [(kc0, .object "java/lang/Object")]) hP hD hK [0, 1] [0] rfl rfl rfl rfl ht9 hW9, by rw [ht9]; exact Nat.le_trans (Nat.add_le_add_left (Nat.le_of_ble_eq_true rfl) _) hG⟩⟩, hS.F ht9⟩) hS.2.2 dJx4a65c_add_72be8_22
