set_option maxHeartbeats 4000000 in
set_option maxRecDepth 100000 in
theorem k241_slack (l : Launch) (hl9 : l.stackTraces = false) (dC : Nat → ClassId) (dI : Nat → Nat → Nat) (z : XZ) (h0 h1 h2 h3 h4 h5 h6 h7 h8 : Nat) (sz : Nat) (p0 p1 : Int32) (kc0 : ClassId) : vx_Met l yX6_slack (.code yX6_slack cX6_slack 4 (some .int) :: wsL_law) ({ frames := 8, cells := 1, slots := 6, locals := 121 }) (va_Pc [.ref h0, .int p0, .int p1] (PC (dC, dI) [(h0, .inr (6, [.ref h1, .ref h2, .ref h3])), (h1, .inr (2, [.ref h4, .ref h5, .ref h6, .ref h7])), (h2, .inr (5, [.ref h1, .int 0])), (h3, .inr (4, [.ref h1, .ref h8, .int 0])), (h4, .inr (0, [.int 0, .ref z.1, .int 0])), (h5, .inr (0, [.int 0, .ref z.1, .int 0])), (h6, .inr (0, [.int 0, .ref z.1, .int 0])), (h7, .inr (0, [.int 0, .ref z.1, .int 0])), (h8, .inl (kc0, 8, .inl (fun _ => 0)))] [(kc0, .int)] sz z)) (va_Qi (fun (_ : Int32) (_ : Unit) => False) (fun _ _ => True) (va_A [(h0, .inr (6, [.ref h1, .ref h2, .ref h3])), (h1, .inr (2, [.ref h4, .ref h5, .ref h6, .ref h7])), (h2, .inr (5, [.ref h1, .int 0])), (h3, .inr (4, [.ref h1, .ref h8, .int 0])), (h4, .inr (0, [.int 0, .ref z.1, .int 0])), (h5, .inr (0, [.int 0, .ref z.1, .int 0])), (h6, .inr (0, [.int 0, .ref z.1, .int 0])), (h7, .inr (0, [.int 0, .ref z.1, .int 0])), (h8, .inl (kc0, 8, .inl (fun _ => 0)))] sz)) (vx_X (fun (_ : Unit) => True) (fun (E : String) (_ : Unit) (_ : State) => E = "java/lang/IndexOutOfBoundsException") (va_A [(h0, .inr (6, [.ref h1, .ref h2, .ref h3])), (h1, .inr (2, [.ref h4, .ref h5, .ref h6, .ref h7])), (h2, .inr (5, [.ref h1, .int 0])), (h3, .inr (4, [.ref h1, .ref h8, .int 0])), (h4, .inr (0, [.int 0, .ref z.1, .int 0])), (h5, .inr (0, [.int 0, .ref z.1, .int 0])), (h6, .inr (0, [.int 0, .ref z.1, .int 0])), (h7, .inr (0, [.int 0, .ref z.1, .int 0])), (h8, .inl (kc0, 8, .inl (fun _ => 0)))] sz)) 1 6 (va_A [(h0, .inr (6, [.ref h1, .ref h2, .ref h3])), (h1, .inr (2, [.ref h4, .ref h5, .ref h6, .ref h7])), (h2, .inr (5, [.ref h1, .int 0])), (h3, .inr (4, [.ref h1, .ref h8, .int 0])), (h4, .inr (0, [.int 0, .ref z.1, .int 0])), (h5, .inr (0, [.int 0, .ref z.1, .int 0])), (h6, .inr (0, [.int 0, .ref z.1, .int 0])), (h7, .inr (0, [.int 0, .ref z.1, .int 0])), (h8, .inl (kc0, 8, .inl (fun _ => 0)))] sz) := by
  refine vx_ofW (cc := cX6_slack) (maxL := 4) (ret := (some .int)) (by decide) rfl ?_
  intro p e s m args below meth c s₁ B hml hnt hv
  obtain ⟨rfl, hsz, hP, hK, hD0, hX, hT⟩ := hv
  have hx := B.exec
  have hb := B.bytes
  have hr := B.returns
  have hts0 := atoms_spec (ws := .code yX6_slack cX6_slack 4 (some .int) :: wsL_law) B.pre
  have hts := xTail hts0
  have hown : s.vm.findClass RX6 = some m.cls := findClass_of_methodNamed B.named
  have hlocks := B.notSynchronized
  subst hsz
  have hD := hD0.self (sz := s.heap.size)
  generalize hAe : va_A [(h0, .inr (6, [.ref h1, .ref h2, .ref h3])), (h1, .inr (2, [.ref h4, .ref h5, .ref h6, .ref h7])), (h2, .inr (5, [.ref h1, .int 0])), (h3, .inr (4, [.ref h1, .ref h8, .int 0])), (h4, .inr (0, [.int 0, .ref z.1, .int 0])), (h5, .inr (0, [.int 0, .ref z.1, .int 0])), (h6, .inr (0, [.int 0, .ref z.1, .int 0])), (h7, .inr (0, [.int 0, .ref z.1, .int 0])), (h8, .inl (kc0, 8, .inl (fun _ => 0)))] s.heap.size = A at hD hX ⊢
  have hA : ∀ q : Nat, s.heap.size ≤ q → A q := fun q h => by rw [← hAe]; exact Or.inr h
  have hS : va_S A s.heap s.heap [] := va_S.rf
  have hl := lv_entry ([.ref h0, .int p0, .int p1]) (n := 4) (Nat.le_of_ble_eq_true rfl)
  rw [lg_entry_eq]
  generalize (lg_sl ([.ref h0, .int p0, .int p1]) ++ List.replicate (4 - (lg_sl ([.ref h0, .int p0, .int p1])).length) Slot.unset).toArray = ls at hl ⊢
  have hl : lv_has ls 4 [(0, .ref h0), (1, .int p0), (2, .int p1)] := hl
  refine lv_aload_n hx hb dX6_slack_0 rfl (lv_at hl 0 rfl) ?_
  refine lv_iload_n hx hb dX6_slack_1 rfl (lv_at hl 1 rfl) ?_
  have hF1 := va_free (wc := [(h0, .inr (6, [.ref h1, .ref h2, .ref h3])), (h1, .inr (2, [.ref h4, .ref h5, .ref h6, .ref h7])), (h2, .inr (5, [.ref h1, .int 0])), (h3, .inr (4, [.ref h1, .ref h8, .int 0])), (h4, .inr (0, [.int 0, .ref z.1, .int 0])), (h5, .inr (0, [.int 0, .ref z.1, .int 0])), (h6, .inr (0, [.int 0, .ref z.1, .int 0])), (h7, .inr (0, [.int 0, .ref z.1, .int 0])), (h8, .inl (kc0, 8, .inl (fun _ => 0)))]) hD hS hA [0, 1, 2, 3, 4, 5, 6, 7, 8] rfl
  refine vx_callq (SX := Unit) (vx_runV (As := [.int p0]) (rest := []) ⟨hx, hb, hml, hown, hts⟩ (k89_netAt l hl9 dC dI z h0 h1 h2 h3 h4 h5 h6 h7 h8 s.heap.size p0 kc0) (cwV 1 hts (gV q_346 q_347 q_348 q_69 q_345) rfl rfl rfl (by decide +kernel) ⟨Nat.le_of_ble_eq_true rfl, Nat.le_of_ble_eq_true rfl⟩) ⟨pc_blind, va_recv hK hP (ci := 6) (q0 := 0) rfl rfl, fun U hU hW => ⟨rfl, pc_mk hP hD hK hS hX hT [0, 1, 2, 3, 4, 5, 6, 7, 8] [0] rfl rfl rfl rfl hF1 hU hW⟩⟩ rfl rfl hl.1 rfl (lv_room (Nat.le_of_ble_eq_true rfl)) dX6_slack_2 ⟨(Nat.le_of_ble_eq_true rfl), (Nat.le_of_ble_eq_true rfl)⟩) hS (fun q9 _ h9 => hF1 q9 h9) hF1 (fun q9 _ h9 => hF1 q9 h9) (fun E3 ce3 x3 v3 t3 H3 L3 ht3 hvm3 hw3 hB3 hz3 hk3 hS hc3 hn3 hf3 => ?_) (fun _ _ _ _ _ _ _ hw9 _ _ _ _ => hw9.elim)
  obtain ⟨hP, hD⟩ := pq_rest (wr := []) hP hD [0, 1, 2, 3, 4, 5, 6, 7, 8] [] rfl rfl (by decide) (by decide) hk3 hF1
  exact vx_out (fun x9 hx9 => (hnt x9 hx9).elim) hlocks hc3 hn3 hf3 (fun t9 ht9 hv9 => ⟨(), trivial, hB3, hS.F ht9⟩) hS.2.2 (by decide) (by decide)

set_option maxHeartbeats 4000000 in
set_option maxRecDepth 100000 in
theorem k242_slack (l : Launch) (hl9 : l.stackTraces = false) (dC : Nat → ClassId) (dI : Nat → Nat → Nat) (z : XZ) (h0 h1 h2 h3 h4 h5 h6 h7 h8 h9 : Nat) (sz : Nat) (p0 p1 : Int32) (kc0 kc1 : ClassId) : Met l yL_slack (.codeWith yL_slack cL_slack 5 (some .int) [(0, 10, 13, 23), (0, 10, 17, 21)] :: wsL_law) ({ frames := 9, cells := 1, slots := 6, locals := 144 }) (va_Pc [.ref h0, .int p0, .int p1, .ref h1] (PC (dC, dI) [(h0, .inr (6, [.ref h2, .ref h3, .ref h4])), (h1, .inl (kc0, 1, .inr (.inl (fun _ => 0)))), (h2, .inr (2, [.ref h5, .ref h6, .ref h7, .ref h8])), (h3, .inr (5, [.ref h2, .int 0])), (h4, .inr (4, [.ref h2, .ref h9, .int 0])), (h5, .inr (0, [.int 0, .ref z.1, .int 0])), (h6, .inr (0, [.int 0, .ref z.1, .int 0])), (h7, .inr (0, [.int 0, .ref z.1, .int 0])), (h8, .inr (0, [.int 0, .ref z.1, .int 0])), (h9, .inl (kc1, 8, .inl (fun _ => 0)))] [(kc0, .long), (kc1, .int)] sz z)) (va_Qi (fun (r : Int32) (_ : Unit) => r = 1) (fun (_ : Unit) (t : State) => PQ (dC, dI) [(h1, .inl (kc0, 1, .inr (.inl (fun _ => 0))))] [(kc0, .long)] (va_A [(h0, .inr (6, [.ref h2, .ref h3, .ref h4])), (h1, .inl (kc0, 1, .inr (.inl (fun _ => 0)))), (h2, .inr (2, [.ref h5, .ref h6, .ref h7, .ref h8])), (h3, .inr (5, [.ref h2, .int 0])), (h4, .inr (4, [.ref h2, .ref h9, .int 0])), (h5, .inr (0, [.int 0, .ref z.1, .int 0])), (h6, .inr (0, [.int 0, .ref z.1, .int 0])), (h7, .inr (0, [.int 0, .ref z.1, .int 0])), (h8, .inr (0, [.int 0, .ref z.1, .int 0])), (h9, .inl (kc1, 8, .inl (fun _ => 0)))] sz) t) (va_A [(h0, .inr (6, [.ref h2, .ref h3, .ref h4])), (h1, .inl (kc0, 1, .inr (.inl (fun _ => 0)))), (h2, .inr (2, [.ref h5, .ref h6, .ref h7, .ref h8])), (h3, .inr (5, [.ref h2, .int 0])), (h4, .inr (4, [.ref h2, .ref h9, .int 0])), (h5, .inr (0, [.int 0, .ref z.1, .int 0])), (h6, .inr (0, [.int 0, .ref z.1, .int 0])), (h7, .inr (0, [.int 0, .ref z.1, .int 0])), (h8, .inr (0, [.int 0, .ref z.1, .int 0])), (h9, .inl (kc1, 8, .inl (fun _ => 0)))] sz)) 1 6 (va_A [(h0, .inr (6, [.ref h2, .ref h3, .ref h4])), (h1, .inl (kc0, 1, .inr (.inl (fun _ => 0)))), (h2, .inr (2, [.ref h5, .ref h6, .ref h7, .ref h8])), (h3, .inr (5, [.ref h2, .int 0])), (h4, .inr (4, [.ref h2, .ref h9, .int 0])), (h5, .inr (0, [.int 0, .ref z.1, .int 0])), (h6, .inr (0, [.int 0, .ref z.1, .int 0])), (h7, .inr (0, [.int 0, .ref z.1, .int 0])), (h8, .inr (0, [.int 0, .ref z.1, .int 0])), (h9, .inl (kc1, 8, .inl (fun _ => 0)))] sz) := by
  refine va_MetW (cc := cL_slack) (maxL := 5) (ret := (some .int)) (hh := [(0, 10, 13, 23), (0, 10, 17, 21)]) (by decide) rfl ?_
  intro p e s m args below meth c s₁ B hml hv
  obtain ⟨rfl, hsz, hP, hK, hD0, hX, hT⟩ := hv
  have hx := B.exec
  have hb := B.bytes
  have hr := B.returns
  have hts0 := atoms_spec (ws := .codeWith yL_slack cL_slack 5 (some .int) [(0, 10, 13, 23), (0, 10, 17, 21)] :: wsL_law) B.pre
  have htab := vx_table B (hts0 _ List.mem_cons_self)
  have hts := xTail hts0
  have hown : s.vm.findClass RL = some m.cls := findClass_of_methodNamed B.named
  have hlocks := B.notSynchronized
  subst hsz
  have hD := hD0.self (sz := s.heap.size)
  generalize hAe : va_A [(h0, .inr (6, [.ref h2, .ref h3, .ref h4])), (h1, .inl (kc0, 1, .inr (.inl (fun _ => 0)))), (h2, .inr (2, [.ref h5, .ref h6, .ref h7, .ref h8])), (h3, .inr (5, [.ref h2, .int 0])), (h4, .inr (4, [.ref h2, .ref h9, .int 0])), (h5, .inr (0, [.int 0, .ref z.1, .int 0])), (h6, .inr (0, [.int 0, .ref z.1, .int 0])), (h7, .inr (0, [.int 0, .ref z.1, .int 0])), (h8, .inr (0, [.int 0, .ref z.1, .int 0])), (h9, .inl (kc1, 8, .inl (fun _ => 0)))] s.heap.size = A at hD hX ⊢
  have hA : ∀ q : Nat, s.heap.size ≤ q → A q := fun q h => by rw [← hAe]; exact Or.inr h
  have hS : va_S A s.heap s.heap [] := va_S.rf
  have hl := lv_entry ([.ref h0, .int p0, .int p1, .ref h1]) (n := 5) (Nat.le_of_ble_eq_true rfl)
  rw [lg_entry_eq]
  generalize (lg_sl ([.ref h0, .int p0, .int p1, .ref h1]) ++ List.replicate (5 - (lg_sl ([.ref h0, .int p0, .int p1, .ref h1])).length) Slot.unset).toArray = ls at hl ⊢
  have hl : lv_has ls 5 [(0, .ref h0), (1, .int p0), (2, .int p1), (3, .ref h1)] := hl
  refine lv_aload_n hx hb dL_slack_0 rfl (lv_at hl 3 rfl) ?_
  refine lv_iconst (v := 0) hx hb dL_slack_1 (by decide) ?_
  refine lv_aload_n hx hb dL_slack_2 rfl (lv_at hl 0 rfl) ?_
  refine lv_iload_n hx hb dL_slack_3 rfl (lv_at hl 1 rfl) ?_
  refine lv_iload_n hx hb dL_slack_4 rfl (lv_at hl 2 rfl) ?_
  have hF1 := va_free (wc := [(h0, .inr (6, [.ref h2, .ref h3, .ref h4])), (h2, .inr (2, [.ref h5, .ref h6, .ref h7, .ref h8])), (h3, .inr (5, [.ref h2, .int 0])), (h4, .inr (4, [.ref h2, .ref h9, .int 0])), (h5, .inr (0, [.int 0, .ref z.1, .int 0])), (h6, .inr (0, [.int 0, .ref z.1, .int 0])), (h7, .inr (0, [.int 0, .ref z.1, .int 0])), (h8, .inr (0, [.int 0, .ref z.1, .int 0])), (h9, .inl (kc1, 8, .inl (fun _ => 0)))]) hD hS hA [0, 2, 3, 4, 5, 6, 7, 8, 9] rfl
  refine vx_calli (SX := Unit) (vx_runV (As := [.int p0, .int p1]) (rest := [.int 0, .ref h1]) ⟨hx, hb, hml, hown, hts⟩ (k241_slack l hl9 dC dI z h0 h2 h3 h4 h5 h6 h7 h8 h9 s.heap.size p0 p1 kc1) (cwV 2 hts (gV q_545 q_546 q_547 q_69 q_544) rfl rfl rfl (by decide +kernel) ⟨Nat.le_of_ble_eq_true rfl, Nat.le_of_ble_eq_true rfl⟩) ⟨pc_blind, va_recv hK hP (ci := 6) (q0 := 0) rfl rfl, fun U hU hW => ⟨rfl, pc_mk hP hD hK hS hX hT [0, 2, 3, 4, 5, 6, 7, 8, 9] [1] rfl rfl rfl rfl hF1 hU hW⟩⟩ rfl rfl hl.1 rfl (lv_room (Nat.le_of_ble_eq_true rfl)) dL_slack_5 ⟨(Nat.le_of_ble_eq_true rfl), (Nat.le_of_ble_eq_true rfl)⟩) hS (fun q9 _ h9 => hF1 q9 h9) hF1 (fun q9 _ h9 => hF1 q9 h9) (fun E3 ce3 x3 v3 t3 H3 L3 ht3 hvm3 hw3 hB3 hz3 hk3 hS hc3 hn3 hf3 => ?_) (fun _ _ _ _ _ _ _ hw9 _ _ _ _ => hw9.elim)
  obtain ⟨hP, hD⟩ := pq_rest (wr := [(h1, .inl (kc0, 1, .inr (.inl (fun _ => 0))))]) hP hD [0, 2, 3, 4, 5, 6, 7, 8, 9] [1] rfl rfl (by decide) (by decide) hk3 hF1
  subst hB3
  refine vx_catch (own := RL) (name := "java/lang/IndexOutOfBoundsException") hown [] ⟨0, 10, 13, 23⟩ [⟨0, 10, 17, 21⟩] htab (fun z9 hz9 => absurd hz9 List.not_mem_nil) (by decide) (by decide) (hts _ q_387) (va_Nw.use rfl (hT.2.1.1 ("java/lang/IndexOutOfBoundsException", "java/lang/IndexOutOfBoundsException") (by decide))) hc3 hn3 hf3 ?_
  refine lv_astore (lv' := [(4, .ref x3), (0, .ref h0), (1, .int p0), (2, .int p1), (3, .ref h1)]) hx hb dL_slack_13 hl (by decide) rfl (fun ls hl => ?_)
  refine lv_iconst (v := 1) hx hb dL_slack_15 (by decide) ?_
  exact W.iret (v := 1) hx hb hr (fun t9 ht9 hW9 => ⟨⟨1, (), rfl, rfl, pq_mk (wc := [(h1, .inl (kc0, 1, .inr (.inl (fun _ => 0))))]) (tc := [(kc0, .long)]) hP hD hK [0] [0] rfl rfl rfl rfl ht9 hW9⟩, hS.F ht9⟩) hS.2.2 dL_slack_16

set_option maxHeartbeats 4000000 in
set_option maxRecDepth 100000 in
theorem k243_slack (l : Launch) (hl9 : l.stackTraces = false) (dC : Nat → ClassId) (dI : Nat → Nat → Nat) (z : XZ) (h0 h1 h2 h3 h4 : Nat) (sz : Nat) (p0 p1 : Int32) : Met l yX9_slack (.code yX9_slack cX9_slack 3 (some .int) :: wsL_law) ({ frames := 2, cells := 0, slots := 0, locals := 43 }) (va_Pc [.ref h0, .int p0, .int p1] (PC (dC, dI) [(h0, .inr (8, [.int 0, .ref h1, .ref h2, .ref h3, .ref h4, .int 0])), (h1, .inr (0, [.int 0, .ref z.1, .int 0])), (h2, .inr (0, [.int 0, .ref z.1, .int 0])), (h3, .inr (0, [.int 0, .ref z.1, .int 0])), (h4, .inr (0, [.int 0, .ref z.1, .int 0]))] [] sz z)) (va_Qi (fun (r : Int32) (_ : Unit) => r = 0) (fun (_ : Unit) (t : State) => PQ (dC, dI) [(h0, .inr (8, [.int 1, .ref h1, .ref h2, .ref h3, .ref h4, .int 0])), (h1, .inr (0, [.int 0, .ref z.1, .int 0])), (h2, .inr (0, [.int 0, .ref z.1, .int 0])), (h3, .inr (0, [.int 0, .ref z.1, .int 0])), (h4, .inr (0, [.int 0, .ref z.1, .int 0]))] [] (va_A [(h0, .inr (8, [.int 0, .ref h1, .ref h2, .ref h3, .ref h4, .int 0])), (h1, .inr (0, [.int 0, .ref z.1, .int 0])), (h2, .inr (0, [.int 0, .ref z.1, .int 0])), (h3, .inr (0, [.int 0, .ref z.1, .int 0])), (h4, .inr (0, [.int 0, .ref z.1, .int 0]))] sz) t) (va_A [(h0, .inr (8, [.int 0, .ref h1, .ref h2, .ref h3, .ref h4, .int 0])), (h1, .inr (0, [.int 0, .ref z.1, .int 0])), (h2, .inr (0, [.int 0, .ref z.1, .int 0])), (h3, .inr (0, [.int 0, .ref z.1, .int 0])), (h4, .inr (0, [.int 0, .ref z.1, .int 0]))] sz)) 0 0 (va_A [(h0, .inr (8, [.int 0, .ref h1, .ref h2, .ref h3, .ref h4, .int 0])), (h1, .inr (0, [.int 0, .ref z.1, .int 0])), (h2, .inr (0, [.int 0, .ref z.1, .int 0])), (h3, .inr (0, [.int 0, .ref z.1, .int 0])), (h4, .inr (0, [.int 0, .ref z.1, .int 0]))] sz) := by
  refine Met.ofW (cc := cX9_slack) (maxL := 3) (ret := (some .int)) (by decide) rfl ?_
  intro p e s m args below meth c s₁ B hml hv
  obtain ⟨rfl, hsz, hP, hK, hD0, hX, hT⟩ := hv
  have hx := B.exec
  have hb := B.bytes
  have hr := B.returns
  have hts0 := atoms_spec (ws := .code yX9_slack cX9_slack 3 (some .int) :: wsL_law) B.pre
  have hts := xTail hts0
  have hown : s.vm.findClass RX9 = some m.cls := findClass_of_methodNamed B.named
  have hlocks := B.notSynchronized
  subst hsz
  have hD := hD0.self (sz := s.heap.size)
  generalize hAe : va_A [(h0, .inr (8, [.int 0, .ref h1, .ref h2, .ref h3, .ref h4, .int 0])), (h1, .inr (0, [.int 0, .ref z.1, .int 0])), (h2, .inr (0, [.int 0, .ref z.1, .int 0])), (h3, .inr (0, [.int 0, .ref z.1, .int 0])), (h4, .inr (0, [.int 0, .ref z.1, .int 0]))] s.heap.size = A at hD hX ⊢
  have hA : ∀ q : Nat, s.heap.size ≤ q → A q := fun q h => by rw [← hAe]; exact Or.inr h
  have hS : va_S A s.heap s.heap [] := va_S.rf
  have hl := lv_entry ([.ref h0, .int p0, .int p1]) (n := 3) (Nat.le_of_ble_eq_true rfl)
  rw [lg_entry_eq]
  generalize (lg_sl ([.ref h0, .int p0, .int p1]) ++ List.replicate (3 - (lg_sl ([.ref h0, .int p0, .int p1])).length) Slot.unset).toArray = ls at hl ⊢
  have hl : lv_has ls 3 [(0, .ref h0), (1, .int p0), (2, .int p1)] := hl
  refine lv_aload_n hx hb dX9_slack_0 rfl (lv_at hl 0 rfl) ?_
  refine lv_iconst (v := 0) hx hb dX9_slack_1 (by decide) ?_
  refine va_put (D := (dC, dI)) (ci := 8) (v := .int 0) (ty := .int) (C := RX9) (T := TX9) (N := 6) hx hb hts in_X9 tyX9 tyX9_ok nmX9 hown hK hP hD hS 0 rfl rfl 0 (by decide) (hts _ q_230) (fun _ h9 => h9) rfl (by decide +kernel) rfl rfl (Nat.le_of_ble_eq_true rfl) dX9_slack_2 (fun H1 _ hP hD hS => ?_)
  have hP : va_P (dC, dI) xCl [(h0, .inr (8, [.int 0, .ref h1, .ref h2, .ref h3, .ref h4, .int 0])), (h1, .inr (0, [.int 0, .ref z.1, .int 0])), (h2, .inr (0, [.int 0, .ref z.1, .int 0])), (h3, .inr (0, [.int 0, .ref z.1, .int 0])), (h4, .inr (0, [.int 0, .ref z.1, .int 0]))] H1 := hP
  have hD : va_D A [(h0, .inr (8, [.int 0, .ref h1, .ref h2, .ref h3, .ref h4, .int 0])), (h1, .inr (0, [.int 0, .ref z.1, .int 0])), (h2, .inr (0, [.int 0, .ref z.1, .int 0])), (h3, .inr (0, [.int 0, .ref z.1, .int 0])), (h4, .inr (0, [.int 0, .ref z.1, .int 0]))] := hD
  refine lv_aload_n hx hb dX9_slack_5 rfl (lv_at hl 0 rfl) ?_
  refine lv_aload_n hx hb dX9_slack_6 rfl (lv_at hl 0 rfl) ?_
  refine lv_iload_n hx hb dX9_slack_7 rfl (lv_at hl 1 rfl) ?_
  have hF2 := va_free (wc := [(h0, .inr (8, [.int 0, .ref h1, .ref h2, .ref h3, .ref h4, .int 0])), (h1, .inr (0, [.int 0, .ref z.1, .int 0])), (h2, .inr (0, [.int 0, .ref z.1, .int 0])), (h3, .inr (0, [.int 0, .ref z.1, .int 0])), (h4, .inr (0, [.int 0, .ref z.1, .int 0]))]) hD hS hA [0, 1, 2, 3, 4] rfl
  refine va_calli (va_runV (As := [.int p0]) (rest := [.ref h0]) ⟨hx, hb, hml, hown, hts⟩ (k195_no l hl9 dC dI z h0 h1 h2 h3 h4 H1.size p0) (cwV 1 hts (gV q_395 q_396 q_397 q_255 q_394) rfl rfl rfl (by decide +kernel) ⟨Nat.le_of_ble_eq_true rfl, Nat.le_of_ble_eq_true rfl⟩) ⟨pc_blind, va_recv hK hP (ci := 8) (q0 := 0) rfl rfl, fun U hU hW => ⟨rfl, pc_mk hP hD hK hS hX hT [0, 1, 2, 3, 4] [] rfl rfl rfl rfl hF2 hU hW⟩⟩ rfl rfl hl.1 rfl (lv_room (Nat.le_of_ble_eq_true rfl)) dX9_slack_8 ⟨(Nat.le_of_ble_eq_true rfl), (Nat.le_of_ble_eq_true rfl)⟩) hS (fun q9 _ h9 => hF2 q9 h9) hF2 (fun r5 u4 t4 H4 L4 ht4 hvm4 hw4 hB4 hz4 hk4 hS => ?_)
  obtain ⟨hP, hD, hK⟩ := pq_join (wr := []) (tr := []) (wz := [(h0, .inr (8, [.int 0, .ref h1, .ref h2, .ref h3, .ref h4, .int 0])), (h1, .inr (0, [.int 0, .ref z.1, .int 0])), (h2, .inr (0, [.int 0, .ref z.1, .int 0])), (h3, .inr (0, [.int 0, .ref z.1, .int 0])), (h4, .inr (0, [.int 0, .ref z.1, .int 0]))]) (tz := []) hP hD hK [0, 1, 2, 3, 4] [] [] rfl rfl (by decide) (by decide) rfl hk4 hF2 hB4 ht4 hvm4 rfl rfl
  refine W.eq (g2 := F0 m 11 ls [.int 1, .ref h0]) (by rw [hw4]) ?_
  refine lv_iconst (v := 1) hx hb dX9_slack_11 (by decide) ?_
  have hF6 := va_free (wc := [(h0, .inr (8, [.int 0, .ref h1, .ref h2, .ref h3, .ref h4, .int 0])), (h1, .inr (0, [.int 0, .ref z.1, .int 0])), (h2, .inr (0, [.int 0, .ref z.1, .int 0])), (h3, .inr (0, [.int 0, .ref z.1, .int 0])), (h4, .inr (0, [.int 0, .ref z.1, .int 0]))]) hD hS hA [0, 1, 2, 3, 4] rfl
  refine va_calli (va_runV (As := [.int 1, .int 1]) (rest := []) ⟨hx, hb, hml, hown, hts⟩ (k196_fails l hl9 dC dI z h0 h1 h2 h3 h4 H4.size) (cwV 2 hts (gV q_257 q_258 q_259 q_255 q_256) rfl rfl rfl (by decide +kernel) ⟨Nat.le_of_ble_eq_true rfl, Nat.le_of_ble_eq_true rfl⟩) ⟨pc_blind, va_recv hK hP (ci := 8) (q0 := 0) rfl rfl, fun U hU hW => ⟨rfl, pc_mk hP hD hK hS hX hT [0, 1, 2, 3, 4] [] rfl rfl rfl rfl hF6 hU hW⟩⟩ rfl rfl hl.1 rfl (lv_room (Nat.le_of_ble_eq_true rfl)) dX9_slack_12 ⟨(Nat.le_of_ble_eq_true rfl), (Nat.le_of_ble_eq_true rfl)⟩) hS (fun q9 _ h9 => hF6 q9 h9) hF6 (fun r9 u8 t8 H8 L8 ht8 hvm8 hw8 hB8 hz8 hk8 hS => ?_)
  obtain ⟨hP, hD, hK⟩ := pq_join (wr := []) (tr := []) (wz := [(h0, .inr (8, [.int 1, .ref h1, .ref h2, .ref h3, .ref h4, .int 0])), (h1, .inr (0, [.int 0, .ref z.1, .int 0])), (h2, .inr (0, [.int 0, .ref z.1, .int 0])), (h3, .inr (0, [.int 0, .ref z.1, .int 0])), (h4, .inr (0, [.int 0, .ref z.1, .int 0]))]) (tz := []) hP hD hK [0, 1, 2, 3, 4] [] [] rfl rfl (by decide) (by decide) rfl hk8 hF6 hB8 ht8 hvm8 rfl rfl
  refine W.eq (g2 := F0 m 15 ls [.int 1]) (by rw [hw8]) ?_
  refine lv_if_ne (tgt := 41) hx hb dX9_slack_15 (by decide) (fun _ => ?_) (fun cz => absurd cz (by decide))
  refine lv_iconst (v := 0) hx hb dX9_slack_41 (by decide) ?_
  refine lv_goto (tgt := 60) hx hb dX9_slack_42 (by decide) ?_
  exact W.iret (v := 0) hx hb hr (fun t9 ht9 hW9 => ⟨⟨0, (), rfl, rfl, pq_mk (wc := [(h0, .inr (8, [.int 1, .ref h1, .ref h2, .ref h3, .ref h4, .int 0])), (h1, .inr (0, [.int 0, .ref z.1, .int 0])), (h2, .inr (0, [.int 0, .ref z.1, .int 0])), (h3, .inr (0, [.int 0, .ref z.1, .int 0])), (h4, .inr (0, [.int 0, .ref z.1, .int 0]))]) (tc := []) hP hD hK [0, 1, 2, 3, 4] [] rfl rfl rfl rfl ht9 hW9⟩, hS.F ht9⟩) hS.2.2 dX9_slack_60

set_option maxHeartbeats 4000000 in
set_option maxRecDepth 100000 in
theorem k244_stands (l : Launch) (hl9 : l.stackTraces = false) (dC : Nat → ClassId) (dI : Nat → Nat → Nat) (z : XZ) (h0 h1 h2 h3 h4 h5 h6 h7 h8 : Nat) (sz : Nat) (p0 : Int32) (kc0 : ClassId) : vx_Met l yX6_stands (.code yX6_stands cX6_stands 2 (some .int) :: wsL_law) ({ frames := 8, cells := 1, slots := 6, locals := 121 }) (va_Pc [.ref h0, .int p0] (PC (dC, dI) [(h0, .inr (6, [.ref h1, .ref h2, .ref h3])), (h1, .inr (2, [.ref h4, .ref h5, .ref h6, .ref h7])), (h2, .inr (5, [.ref h1, .int 0])), (h3, .inr (4, [.ref h1, .ref h8, .int 0])), (h4, .inr (0, [.int 0, .ref z.1, .int 0])), (h5, .inr (0, [.int 0, .ref z.1, .int 0])), (h6, .inr (0, [.int 0, .ref z.1, .int 0])), (h7, .inr (0, [.int 0, .ref z.1, .int 0])), (h8, .inl (kc0, 8, .inl (fun _ => 0)))] [(kc0, .int)] sz z)) (va_Qi (fun (_ : Int32) (_ : Unit) => False) (fun _ _ => True) (va_A [(h0, .inr (6, [.ref h1, .ref h2, .ref h3])), (h1, .inr (2, [.ref h4, .ref h5, .ref h6, .ref h7])), (h2, .inr (5, [.ref h1, .int 0])), (h3, .inr (4, [.ref h1, .ref h8, .int 0])), (h4, .inr (0, [.int 0, .ref z.1, .int 0])), (h5, .inr (0, [.int 0, .ref z.1, .int 0])), (h6, .inr (0, [.int 0, .ref z.1, .int 0])), (h7, .inr (0, [.int 0, .ref z.1, .int 0])), (h8, .inl (kc0, 8, .inl (fun _ => 0)))] sz)) (vx_X (fun (_ : Unit) => True) (fun (E : String) (_ : Unit) (_ : State) => E = "java/lang/IndexOutOfBoundsException") (va_A [(h0, .inr (6, [.ref h1, .ref h2, .ref h3])), (h1, .inr (2, [.ref h4, .ref h5, .ref h6, .ref h7])), (h2, .inr (5, [.ref h1, .int 0])), (h3, .inr (4, [.ref h1, .ref h8, .int 0])), (h4, .inr (0, [.int 0, .ref z.1, .int 0])), (h5, .inr (0, [.int 0, .ref z.1, .int 0])), (h6, .inr (0, [.int 0, .ref z.1, .int 0])), (h7, .inr (0, [.int 0, .ref z.1, .int 0])), (h8, .inl (kc0, 8, .inl (fun _ => 0)))] sz)) 1 6 (va_A [(h0, .inr (6, [.ref h1, .ref h2, .ref h3])), (h1, .inr (2, [.ref h4, .ref h5, .ref h6, .ref h7])), (h2, .inr (5, [.ref h1, .int 0])), (h3, .inr (4, [.ref h1, .ref h8, .int 0])), (h4, .inr (0, [.int 0, .ref z.1, .int 0])), (h5, .inr (0, [.int 0, .ref z.1, .int 0])), (h6, .inr (0, [.int 0, .ref z.1, .int 0])), (h7, .inr (0, [.int 0, .ref z.1, .int 0])), (h8, .inl (kc0, 8, .inl (fun _ => 0)))] sz) := by
  refine vx_ofW (cc := cX6_stands) (maxL := 2) (ret := (some .int)) (by decide) rfl ?_
  intro p e s m args below meth c s₁ B hml hnt hv
  obtain ⟨rfl, hsz, hP, hK, hD0, hX, hT⟩ := hv
  have hx := B.exec
  have hb := B.bytes
  have hr := B.returns
  have hts0 := atoms_spec (ws := .code yX6_stands cX6_stands 2 (some .int) :: wsL_law) B.pre
  have hts := xTail hts0
  have hown : s.vm.findClass RX6 = some m.cls := findClass_of_methodNamed B.named
  have hlocks := B.notSynchronized
  subst hsz
  have hD := hD0.self (sz := s.heap.size)
  generalize hAe : va_A [(h0, .inr (6, [.ref h1, .ref h2, .ref h3])), (h1, .inr (2, [.ref h4, .ref h5, .ref h6, .ref h7])), (h2, .inr (5, [.ref h1, .int 0])), (h3, .inr (4, [.ref h1, .ref h8, .int 0])), (h4, .inr (0, [.int 0, .ref z.1, .int 0])), (h5, .inr (0, [.int 0, .ref z.1, .int 0])), (h6, .inr (0, [.int 0, .ref z.1, .int 0])), (h7, .inr (0, [.int 0, .ref z.1, .int 0])), (h8, .inl (kc0, 8, .inl (fun _ => 0)))] s.heap.size = A at hD hX ⊢
  have hA : ∀ q : Nat, s.heap.size ≤ q → A q := fun q h => by rw [← hAe]; exact Or.inr h
  have hS : va_S A s.heap s.heap [] := va_S.rf
  have hl := lv_entry ([.ref h0, .int p0]) (n := 2) (Nat.le_of_ble_eq_true rfl)
  rw [lg_entry_eq]
  generalize (lg_sl ([.ref h0, .int p0]) ++ List.replicate (2 - (lg_sl ([.ref h0, .int p0])).length) Slot.unset).toArray = ls at hl ⊢
  have hl : lv_has ls 2 [(0, .ref h0), (1, .int p0)] := hl
  refine lv_aload_n hx hb dX6_stands_0 rfl (lv_at hl 0 rfl) ?_
  refine lv_iload_n hx hb dX6_stands_1 rfl (lv_at hl 1 rfl) ?_
  have hF1 := va_free (wc := [(h0, .inr (6, [.ref h1, .ref h2, .ref h3])), (h1, .inr (2, [.ref h4, .ref h5, .ref h6, .ref h7])), (h2, .inr (5, [.ref h1, .int 0])), (h3, .inr (4, [.ref h1, .ref h8, .int 0])), (h4, .inr (0, [.int 0, .ref z.1, .int 0])), (h5, .inr (0, [.int 0, .ref z.1, .int 0])), (h6, .inr (0, [.int 0, .ref z.1, .int 0])), (h7, .inr (0, [.int 0, .ref z.1, .int 0])), (h8, .inl (kc0, 8, .inl (fun _ => 0)))]) hD hS hA [0, 1, 2, 3, 4, 5, 6, 7, 8] rfl
  refine vx_callq (SX := Unit) (vx_runV (As := [.int p0]) (rest := []) ⟨hx, hb, hml, hown, hts⟩ (k89_netAt l hl9 dC dI z h0 h1 h2 h3 h4 h5 h6 h7 h8 s.heap.size p0 kc0) (cwV 1 hts (gV q_346 q_347 q_348 q_69 q_345) rfl rfl rfl (by decide +kernel) ⟨Nat.le_of_ble_eq_true rfl, Nat.le_of_ble_eq_true rfl⟩) ⟨pc_blind, va_recv hK hP (ci := 6) (q0 := 0) rfl rfl, fun U hU hW => ⟨rfl, pc_mk hP hD hK hS hX hT [0, 1, 2, 3, 4, 5, 6, 7, 8] [0] rfl rfl rfl rfl hF1 hU hW⟩⟩ rfl rfl hl.1 rfl (lv_room (Nat.le_of_ble_eq_true rfl)) dX6_stands_2 ⟨(Nat.le_of_ble_eq_true rfl), (Nat.le_of_ble_eq_true rfl)⟩) hS (fun q9 _ h9 => hF1 q9 h9) hF1 (fun q9 _ h9 => hF1 q9 h9) (fun E3 ce3 x3 v3 t3 H3 L3 ht3 hvm3 hw3 hB3 hz3 hk3 hS hc3 hn3 hf3 => ?_) (fun _ _ _ _ _ _ _ hw9 _ _ _ _ => hw9.elim)
  obtain ⟨hP, hD⟩ := pq_rest (wr := []) hP hD [0, 1, 2, 3, 4, 5, 6, 7, 8] [] rfl rfl (by decide) (by decide) hk3 hF1
  exact vx_out (fun x9 hx9 => (hnt x9 hx9).elim) hlocks hc3 hn3 hf3 (fun t9 ht9 hv9 => ⟨(), trivial, hB3, hS.F ht9⟩) hS.2.2 (by decide) (by decide)

set_option maxHeartbeats 4000000 in
set_option maxRecDepth 100000 in
theorem k245_stands (l : Launch) (hl9 : l.stackTraces = false) (dC : Nat → ClassId) (dI : Nat → Nat → Nat) (z : XZ) (h0 h1 h2 h3 h4 h5 h6 h7 h8 h9 : Nat) (sz : Nat) (p0 : Int32) (kc0 kc1 : ClassId) : Met l yL_stands (.codeWith yL_stands cL_stands 4 (some .int) [(0, 9, 12, 23)] :: wsL_law) ({ frames := 9, cells := 1, slots := 6, locals := 142 }) (va_Pc [.ref h0, .int p0, .ref h1] (PC (dC, dI) [(h0, .inr (6, [.ref h2, .ref h3, .ref h4])), (h1, .inl (kc0, 1, .inr (.inl (fun _ => 0)))), (h2, .inr (2, [.ref h5, .ref h6, .ref h7, .ref h8])), (h3, .inr (5, [.ref h2, .int 0])), (h4, .inr (4, [.ref h2, .ref h9, .int 0])), (h5, .inr (0, [.int 0, .ref z.1, .int 0])), (h6, .inr (0, [.int 0, .ref z.1, .int 0])), (h7, .inr (0, [.int 0, .ref z.1, .int 0])), (h8, .inr (0, [.int 0, .ref z.1, .int 0])), (h9, .inl (kc1, 8, .inl (fun _ => 0)))] [(kc0, .long), (kc1, .int)] sz z)) (va_Qi (fun (r : Int32) (_ : Unit) => r = 1) (fun (_ : Unit) (t : State) => PQ (dC, dI) [(h1, .inl (kc0, 1, .inr (.inl (fun _ => 0))))] [(kc0, .long)] (va_A [(h0, .inr (6, [.ref h2, .ref h3, .ref h4])), (h1, .inl (kc0, 1, .inr (.inl (fun _ => 0)))), (h2, .inr (2, [.ref h5, .ref h6, .ref h7, .ref h8])), (h3, .inr (5, [.ref h2, .int 0])), (h4, .inr (4, [.ref h2, .ref h9, .int 0])), (h5, .inr (0, [.int 0, .ref z.1, .int 0])), (h6, .inr (0, [.int 0, .ref z.1, .int 0])), (h7, .inr (0, [.int 0, .ref z.1, .int 0])), (h8, .inr (0, [.int 0, .ref z.1, .int 0])), (h9, .inl (kc1, 8, .inl (fun _ => 0)))] sz) t) (va_A [(h0, .inr (6, [.ref h2, .ref h3, .ref h4])), (h1, .inl (kc0, 1, .inr (.inl (fun _ => 0)))), (h2, .inr (2, [.ref h5, .ref h6, .ref h7, .ref h8])), (h3, .inr (5, [.ref h2, .int 0])), (h4, .inr (4, [.ref h2, .ref h9, .int 0])), (h5, .inr (0, [.int 0, .ref z.1, .int 0])), (h6, .inr (0, [.int 0, .ref z.1, .int 0])), (h7, .inr (0, [.int 0, .ref z.1, .int 0])), (h8, .inr (0, [.int 0, .ref z.1, .int 0])), (h9, .inl (kc1, 8, .inl (fun _ => 0)))] sz)) 1 6 (va_A [(h0, .inr (6, [.ref h2, .ref h3, .ref h4])), (h1, .inl (kc0, 1, .inr (.inl (fun _ => 0)))), (h2, .inr (2, [.ref h5, .ref h6, .ref h7, .ref h8])), (h3, .inr (5, [.ref h2, .int 0])), (h4, .inr (4, [.ref h2, .ref h9, .int 0])), (h5, .inr (0, [.int 0, .ref z.1, .int 0])), (h6, .inr (0, [.int 0, .ref z.1, .int 0])), (h7, .inr (0, [.int 0, .ref z.1, .int 0])), (h8, .inr (0, [.int 0, .ref z.1, .int 0])), (h9, .inl (kc1, 8, .inl (fun _ => 0)))] sz) := by
  refine va_MetW (cc := cL_stands) (maxL := 4) (ret := (some .int)) (hh := [(0, 9, 12, 23)]) (by decide) rfl ?_
  intro p e s m args below meth c s₁ B hml hv
  obtain ⟨rfl, hsz, hP, hK, hD0, hX, hT⟩ := hv
  have hx := B.exec
  have hb := B.bytes
  have hr := B.returns
  have hts0 := atoms_spec (ws := .codeWith yL_stands cL_stands 4 (some .int) [(0, 9, 12, 23)] :: wsL_law) B.pre
  have htab := vx_table B (hts0 _ List.mem_cons_self)
  have hts := xTail hts0
  have hown : s.vm.findClass RL = some m.cls := findClass_of_methodNamed B.named
  have hlocks := B.notSynchronized
  subst hsz
  have hD := hD0.self (sz := s.heap.size)
  generalize hAe : va_A [(h0, .inr (6, [.ref h2, .ref h3, .ref h4])), (h1, .inl (kc0, 1, .inr (.inl (fun _ => 0)))), (h2, .inr (2, [.ref h5, .ref h6, .ref h7, .ref h8])), (h3, .inr (5, [.ref h2, .int 0])), (h4, .inr (4, [.ref h2, .ref h9, .int 0])), (h5, .inr (0, [.int 0, .ref z.1, .int 0])), (h6, .inr (0, [.int 0, .ref z.1, .int 0])), (h7, .inr (0, [.int 0, .ref z.1, .int 0])), (h8, .inr (0, [.int 0, .ref z.1, .int 0])), (h9, .inl (kc1, 8, .inl (fun _ => 0)))] s.heap.size = A at hD hX ⊢
  have hA : ∀ q : Nat, s.heap.size ≤ q → A q := fun q h => by rw [← hAe]; exact Or.inr h
  have hS : va_S A s.heap s.heap [] := va_S.rf
  have hl := lv_entry ([.ref h0, .int p0, .ref h1]) (n := 4) (Nat.le_of_ble_eq_true rfl)
  rw [lg_entry_eq]
  generalize (lg_sl ([.ref h0, .int p0, .ref h1]) ++ List.replicate (4 - (lg_sl ([.ref h0, .int p0, .ref h1])).length) Slot.unset).toArray = ls at hl ⊢
  have hl : lv_has ls 4 [(0, .ref h0), (1, .int p0), (2, .ref h1)] := hl
  refine lv_aload_n hx hb dL_stands_0 rfl (lv_at hl 2 rfl) ?_
  refine lv_iconst (v := 0) hx hb dL_stands_1 (by decide) ?_
  refine lv_aload_n hx hb dL_stands_2 rfl (lv_at hl 0 rfl) ?_
  refine lv_iload_n hx hb dL_stands_3 rfl (lv_at hl 1 rfl) ?_
  have hF1 := va_free (wc := [(h0, .inr (6, [.ref h2, .ref h3, .ref h4])), (h2, .inr (2, [.ref h5, .ref h6, .ref h7, .ref h8])), (h3, .inr (5, [.ref h2, .int 0])), (h4, .inr (4, [.ref h2, .ref h9, .int 0])), (h5, .inr (0, [.int 0, .ref z.1, .int 0])), (h6, .inr (0, [.int 0, .ref z.1, .int 0])), (h7, .inr (0, [.int 0, .ref z.1, .int 0])), (h8, .inr (0, [.int 0, .ref z.1, .int 0])), (h9, .inl (kc1, 8, .inl (fun _ => 0)))]) hD hS hA [0, 2, 3, 4, 5, 6, 7, 8, 9] rfl
  refine vx_calli (SX := Unit) (vx_runV (As := [.int p0]) (rest := [.int 0, .ref h1]) ⟨hx, hb, hml, hown, hts⟩ (k244_stands l hl9 dC dI z h0 h2 h3 h4 h5 h6 h7 h8 h9 s.heap.size p0 kc1) (cwV 1 hts (gV q_556 q_557 q_558 q_69 q_555) rfl rfl rfl (by decide +kernel) ⟨Nat.le_of_ble_eq_true rfl, Nat.le_of_ble_eq_true rfl⟩) ⟨pc_blind, va_recv hK hP (ci := 6) (q0 := 0) rfl rfl, fun U hU hW => ⟨rfl, pc_mk hP hD hK hS hX hT [0, 2, 3, 4, 5, 6, 7, 8, 9] [1] rfl rfl rfl rfl hF1 hU hW⟩⟩ rfl rfl hl.1 rfl (lv_room (Nat.le_of_ble_eq_true rfl)) dL_stands_4 ⟨(Nat.le_of_ble_eq_true rfl), (Nat.le_of_ble_eq_true rfl)⟩) hS (fun q9 _ h9 => hF1 q9 h9) hF1 (fun q9 _ h9 => hF1 q9 h9) (fun E3 ce3 x3 v3 t3 H3 L3 ht3 hvm3 hw3 hB3 hz3 hk3 hS hc3 hn3 hf3 => ?_) (fun _ _ _ _ _ _ _ hw9 _ _ _ _ => hw9.elim)
  obtain ⟨hP, hD⟩ := pq_rest (wr := [(h1, .inl (kc0, 1, .inr (.inl (fun _ => 0))))]) hP hD [0, 2, 3, 4, 5, 6, 7, 8, 9] [1] rfl rfl (by decide) (by decide) hk3 hF1
  subst hB3
  refine vx_catch (own := RL) (name := "java/lang/IndexOutOfBoundsException") hown [] ⟨0, 9, 12, 23⟩ [] htab (fun z9 hz9 => absurd hz9 List.not_mem_nil) (by decide) (by decide) (hts _ q_387) (va_Nw.use rfl (hT.2.1.1 ("java/lang/IndexOutOfBoundsException", "java/lang/IndexOutOfBoundsException") (by decide))) hc3 hn3 hf3 ?_
  refine lv_astore_n (lv' := [(3, .ref x3), (0, .ref h0), (1, .int p0), (2, .ref h1)]) hx hb dL_stands_12 rfl hl (by decide) rfl (fun ls hl => ?_)
  refine lv_iconst (v := 1) hx hb dL_stands_13 (by decide) ?_
  exact W.iret (v := 1) hx hb hr (fun t9 ht9 hW9 => ⟨⟨1, (), rfl, rfl, pq_mk (wc := [(h1, .inl (kc0, 1, .inr (.inl (fun _ => 0))))]) (tc := [(kc0, .long)]) hP hD hK [0] [0] rfl rfl rfl rfl ht9 hW9⟩, hS.F ht9⟩) hS.2.2 dL_stands_14

set_option maxHeartbeats 4000000 in
set_option maxRecDepth 100000 in
theorem k246_stands (l : Launch) (hl9 : l.stackTraces = false) (dC : Nat → ClassId) (dI : Nat → Nat → Nat) (z : XZ) (h0 h1 h2 h3 h4 : Nat) (sz : Nat) (p0 : Int32) : Met l yX9_stands (.code yX9_stands cX9_stands 2 (some .int) :: wsL_law) ({ frames := 2, cells := 0, slots := 0, locals := 43 }) (va_Pc [.ref h0, .int p0] (PC (dC, dI) [(h0, .inr (8, [.int 0, .ref h1, .ref h2, .ref h3, .ref h4, .int 0])), (h1, .inr (0, [.int 0, .ref z.1, .int 0])), (h2, .inr (0, [.int 0, .ref z.1, .int 0])), (h3, .inr (0, [.int 0, .ref z.1, .int 0])), (h4, .inr (0, [.int 0, .ref z.1, .int 0]))] [] sz z)) (va_Qi (fun (r : Int32) (_ : Unit) => r = 0) (fun (_ : Unit) (t : State) => PQ (dC, dI) [(h0, .inr (8, [.int 1, .ref h1, .ref h2, .ref h3, .ref h4, .int 0])), (h1, .inr (0, [.int 0, .ref z.1, .int 0])), (h2, .inr (0, [.int 0, .ref z.1, .int 0])), (h3, .inr (0, [.int 0, .ref z.1, .int 0])), (h4, .inr (0, [.int 0, .ref z.1, .int 0]))] [] (va_A [(h0, .inr (8, [.int 0, .ref h1, .ref h2, .ref h3, .ref h4, .int 0])), (h1, .inr (0, [.int 0, .ref z.1, .int 0])), (h2, .inr (0, [.int 0, .ref z.1, .int 0])), (h3, .inr (0, [.int 0, .ref z.1, .int 0])), (h4, .inr (0, [.int 0, .ref z.1, .int 0]))] sz) t) (va_A [(h0, .inr (8, [.int 0, .ref h1, .ref h2, .ref h3, .ref h4, .int 0])), (h1, .inr (0, [.int 0, .ref z.1, .int 0])), (h2, .inr (0, [.int 0, .ref z.1, .int 0])), (h3, .inr (0, [.int 0, .ref z.1, .int 0])), (h4, .inr (0, [.int 0, .ref z.1, .int 0]))] sz)) 0 0 (va_A [(h0, .inr (8, [.int 0, .ref h1, .ref h2, .ref h3, .ref h4, .int 0])), (h1, .inr (0, [.int 0, .ref z.1, .int 0])), (h2, .inr (0, [.int 0, .ref z.1, .int 0])), (h3, .inr (0, [.int 0, .ref z.1, .int 0])), (h4, .inr (0, [.int 0, .ref z.1, .int 0]))] sz) := by
  refine Met.ofW (cc := cX9_stands) (maxL := 2) (ret := (some .int)) (by decide) rfl ?_
  intro p e s m args below meth c s₁ B hml hv
  obtain ⟨rfl, hsz, hP, hK, hD0, hX, hT⟩ := hv
  have hx := B.exec
  have hb := B.bytes
  have hr := B.returns
  have hts0 := atoms_spec (ws := .code yX9_stands cX9_stands 2 (some .int) :: wsL_law) B.pre
  have hts := xTail hts0
  have hown : s.vm.findClass RX9 = some m.cls := findClass_of_methodNamed B.named
  have hlocks := B.notSynchronized
  subst hsz
  have hD := hD0.self (sz := s.heap.size)
  generalize hAe : va_A [(h0, .inr (8, [.int 0, .ref h1, .ref h2, .ref h3, .ref h4, .int 0])), (h1, .inr (0, [.int 0, .ref z.1, .int 0])), (h2, .inr (0, [.int 0, .ref z.1, .int 0])), (h3, .inr (0, [.int 0, .ref z.1, .int 0])), (h4, .inr (0, [.int 0, .ref z.1, .int 0]))] s.heap.size = A at hD hX ⊢
  have hA : ∀ q : Nat, s.heap.size ≤ q → A q := fun q h => by rw [← hAe]; exact Or.inr h
  have hS : va_S A s.heap s.heap [] := va_S.rf
  have hl := lv_entry ([.ref h0, .int p0]) (n := 2) (Nat.le_of_ble_eq_true rfl)
  rw [lg_entry_eq]
  generalize (lg_sl ([.ref h0, .int p0]) ++ List.replicate (2 - (lg_sl ([.ref h0, .int p0])).length) Slot.unset).toArray = ls at hl ⊢
  have hl : lv_has ls 2 [(0, .ref h0), (1, .int p0)] := hl
  refine lv_aload_n hx hb dX9_stands_0 rfl (lv_at hl 0 rfl) ?_
  refine lv_iconst (v := 0) hx hb dX9_stands_1 (by decide) ?_
  refine va_put (D := (dC, dI)) (ci := 8) (v := .int 0) (ty := .int) (C := RX9) (T := TX9) (N := 6) hx hb hts in_X9 tyX9 tyX9_ok nmX9 hown hK hP hD hS 0 rfl rfl 0 (by decide) (hts _ q_230) (fun _ h9 => h9) rfl (by decide +kernel) rfl rfl (Nat.le_of_ble_eq_true rfl) dX9_stands_2 (fun H1 _ hP hD hS => ?_)
  have hP : va_P (dC, dI) xCl [(h0, .inr (8, [.int 0, .ref h1, .ref h2, .ref h3, .ref h4, .int 0])), (h1, .inr (0, [.int 0, .ref z.1, .int 0])), (h2, .inr (0, [.int 0, .ref z.1, .int 0])), (h3, .inr (0, [.int 0, .ref z.1, .int 0])), (h4, .inr (0, [.int 0, .ref z.1, .int 0]))] H1 := hP
  have hD : va_D A [(h0, .inr (8, [.int 0, .ref h1, .ref h2, .ref h3, .ref h4, .int 0])), (h1, .inr (0, [.int 0, .ref z.1, .int 0])), (h2, .inr (0, [.int 0, .ref z.1, .int 0])), (h3, .inr (0, [.int 0, .ref z.1, .int 0])), (h4, .inr (0, [.int 0, .ref z.1, .int 0]))] := hD
  refine lv_aload_n hx hb dX9_stands_5 rfl (lv_at hl 0 rfl) ?_
  refine lv_aload_n hx hb dX9_stands_6 rfl (lv_at hl 0 rfl) ?_
  refine lv_iload_n hx hb dX9_stands_7 rfl (lv_at hl 1 rfl) ?_
  have hF2 := va_free (wc := [(h0, .inr (8, [.int 0, .ref h1, .ref h2, .ref h3, .ref h4, .int 0])), (h1, .inr (0, [.int 0, .ref z.1, .int 0])), (h2, .inr (0, [.int 0, .ref z.1, .int 0])), (h3, .inr (0, [.int 0, .ref z.1, .int 0])), (h4, .inr (0, [.int 0, .ref z.1, .int 0]))]) hD hS hA [0, 1, 2, 3, 4] rfl
  refine va_calli (va_runV (As := [.int p0]) (rest := [.ref h0]) ⟨hx, hb, hml, hown, hts⟩ (k195_no l hl9 dC dI z h0 h1 h2 h3 h4 H1.size p0) (cwV 1 hts (gV q_395 q_396 q_397 q_255 q_394) rfl rfl rfl (by decide +kernel) ⟨Nat.le_of_ble_eq_true rfl, Nat.le_of_ble_eq_true rfl⟩) ⟨pc_blind, va_recv hK hP (ci := 8) (q0 := 0) rfl rfl, fun U hU hW => ⟨rfl, pc_mk hP hD hK hS hX hT [0, 1, 2, 3, 4] [] rfl rfl rfl rfl hF2 hU hW⟩⟩ rfl rfl hl.1 rfl (lv_room (Nat.le_of_ble_eq_true rfl)) dX9_stands_8 ⟨(Nat.le_of_ble_eq_true rfl), (Nat.le_of_ble_eq_true rfl)⟩) hS (fun q9 _ h9 => hF2 q9 h9) hF2 (fun r5 u4 t4 H4 L4 ht4 hvm4 hw4 hB4 hz4 hk4 hS => ?_)
  obtain ⟨hP, hD, hK⟩ := pq_join (wr := []) (tr := []) (wz := [(h0, .inr (8, [.int 0, .ref h1, .ref h2, .ref h3, .ref h4, .int 0])), (h1, .inr (0, [.int 0, .ref z.1, .int 0])), (h2, .inr (0, [.int 0, .ref z.1, .int 0])), (h3, .inr (0, [.int 0, .ref z.1, .int 0])), (h4, .inr (0, [.int 0, .ref z.1, .int 0]))]) (tz := []) hP hD hK [0, 1, 2, 3, 4] [] [] rfl rfl (by decide) (by decide) rfl hk4 hF2 hB4 ht4 hvm4 rfl rfl
  refine W.eq (g2 := F0 m 11 ls [.int 1, .ref h0]) (by rw [hw4]) ?_
  refine lv_iconst (v := 1) hx hb dX9_stands_11 (by decide) ?_
  have hF6 := va_free (wc := [(h0, .inr (8, [.int 0, .ref h1, .ref h2, .ref h3, .ref h4, .int 0])), (h1, .inr (0, [.int 0, .ref z.1, .int 0])), (h2, .inr (0, [.int 0, .ref z.1, .int 0])), (h3, .inr (0, [.int 0, .ref z.1, .int 0])), (h4, .inr (0, [.int 0, .ref z.1, .int 0]))]) hD hS hA [0, 1, 2, 3, 4] rfl
  refine va_calli (va_runV (As := [.int 1, .int 1]) (rest := []) ⟨hx, hb, hml, hown, hts⟩ (k196_fails l hl9 dC dI z h0 h1 h2 h3 h4 H4.size) (cwV 2 hts (gV q_257 q_258 q_259 q_255 q_256) rfl rfl rfl (by decide +kernel) ⟨Nat.le_of_ble_eq_true rfl, Nat.le_of_ble_eq_true rfl⟩) ⟨pc_blind, va_recv hK hP (ci := 8) (q0 := 0) rfl rfl, fun U hU hW => ⟨rfl, pc_mk hP hD hK hS hX hT [0, 1, 2, 3, 4] [] rfl rfl rfl rfl hF6 hU hW⟩⟩ rfl rfl hl.1 rfl (lv_room (Nat.le_of_ble_eq_true rfl)) dX9_stands_12 ⟨(Nat.le_of_ble_eq_true rfl), (Nat.le_of_ble_eq_true rfl)⟩) hS (fun q9 _ h9 => hF6 q9 h9) hF6 (fun r9 u8 t8 H8 L8 ht8 hvm8 hw8 hB8 hz8 hk8 hS => ?_)
  obtain ⟨hP, hD, hK⟩ := pq_join (wr := []) (tr := []) (wz := [(h0, .inr (8, [.int 1, .ref h1, .ref h2, .ref h3, .ref h4, .int 0])), (h1, .inr (0, [.int 0, .ref z.1, .int 0])), (h2, .inr (0, [.int 0, .ref z.1, .int 0])), (h3, .inr (0, [.int 0, .ref z.1, .int 0])), (h4, .inr (0, [.int 0, .ref z.1, .int 0]))]) (tz := []) hP hD hK [0, 1, 2, 3, 4] [] [] rfl rfl (by decide) (by decide) rfl hk8 hF6 hB8 ht8 hvm8 rfl rfl
  refine W.eq (g2 := F0 m 15 ls [.int 1]) (by rw [hw8]) ?_
  refine lv_if_eq (tgt := 22) hx hb dX9_stands_15 (by decide) (fun cz => absurd cz (by decide)) (fun _ => ?_)
  refine lv_iconst (v := 0) hx hb dX9_stands_18 (by decide) ?_
  refine lv_goto (tgt := 28) hx hb dX9_stands_19 (by decide) ?_
  exact W.iret (v := 0) hx hb hr (fun t9 ht9 hW9 => ⟨⟨0, (), rfl, rfl, pq_mk (wc := [(h0, .inr (8, [.int 1, .ref h1, .ref h2, .ref h3, .ref h4, .int 0])), (h1, .inr (0, [.int 0, .ref z.1, .int 0])), (h2, .inr (0, [.int 0, .ref z.1, .int 0])), (h3, .inr (0, [.int 0, .ref z.1, .int 0])), (h4, .inr (0, [.int 0, .ref z.1, .int 0]))]) (tc := []) hP hD hK [0, 1, 2, 3, 4] [] rfl rfl rfl rfl ht9 hW9⟩, hS.F ht9⟩) hS.2.2 dX9_stands_28

set_option maxHeartbeats 4000000 in
set_option maxRecDepth 100000 in
theorem k247_differs (l : Launch) (hl9 : l.stackTraces = false) (dC : Nat → ClassId) (dI : Nat → Nat → Nat) (z : XZ) (h0 h1 h2 h3 h4 h5 h6 h7 h8 : Nat) (sz : Nat) (p0 p1 : Int32) (kc0 : ClassId) : vx_Met l yX6_differs (.code yX6_differs cX6_differs 5 (some .int) :: wsL_law) ({ frames := 8, cells := 1, slots := 6, locals := 121 }) (va_Pc [.ref h0, .int p0, .int p1] (PC (dC, dI) [(h0, .inr (6, [.ref h1, .ref h2, .ref h3])), (h1, .inr (2, [.ref h4, .ref h5, .ref h6, .ref h7])), (h2, .inr (5, [.ref h1, .int 0])), (h3, .inr (4, [.ref h1, .ref h8, .int 0])), (h4, .inr (0, [.int 0, .ref z.1, .int 0])), (h5, .inr (0, [.int 0, .ref z.1, .int 0])), (h6, .inr (0, [.int 0, .ref z.1, .int 0])), (h7, .inr (0, [.int 0, .ref z.1, .int 0])), (h8, .inl (kc0, 8, .inl (fun _ => 0)))] [(kc0, .int)] sz z)) (va_Qi (fun (_ : Int32) (_ : Unit) => False) (fun _ _ => True) (va_A [(h0, .inr (6, [.ref h1, .ref h2, .ref h3])), (h1, .inr (2, [.ref h4, .ref h5, .ref h6, .ref h7])), (h2, .inr (5, [.ref h1, .int 0])), (h3, .inr (4, [.ref h1, .ref h8, .int 0])), (h4, .inr (0, [.int 0, .ref z.1, .int 0])), (h5, .inr (0, [.int 0, .ref z.1, .int 0])), (h6, .inr (0, [.int 0, .ref z.1, .int 0])), (h7, .inr (0, [.int 0, .ref z.1, .int 0])), (h8, .inl (kc0, 8, .inl (fun _ => 0)))] sz)) (vx_X (fun (_ : Unit) => True) (fun (E : String) (_ : Unit) (_ : State) => E = "java/lang/IndexOutOfBoundsException") (va_A [(h0, .inr (6, [.ref h1, .ref h2, .ref h3])), (h1, .inr (2, [.ref h4, .ref h5, .ref h6, .ref h7])), (h2, .inr (5, [.ref h1, .int 0])), (h3, .inr (4, [.ref h1, .ref h8, .int 0])), (h4, .inr (0, [.int 0, .ref z.1, .int 0])), (h5, .inr (0, [.int 0, .ref z.1, .int 0])), (h6, .inr (0, [.int 0, .ref z.1, .int 0])), (h7, .inr (0, [.int 0, .ref z.1, .int 0])), (h8, .inl (kc0, 8, .inl (fun _ => 0)))] sz)) 1 6 (va_A [(h0, .inr (6, [.ref h1, .ref h2, .ref h3])), (h1, .inr (2, [.ref h4, .ref h5, .ref h6, .ref h7])), (h2, .inr (5, [.ref h1, .int 0])), (h3, .inr (4, [.ref h1, .ref h8, .int 0])), (h4, .inr (0, [.int 0, .ref z.1, .int 0])), (h5, .inr (0, [.int 0, .ref z.1, .int 0])), (h6, .inr (0, [.int 0, .ref z.1, .int 0])), (h7, .inr (0, [.int 0, .ref z.1, .int 0])), (h8, .inl (kc0, 8, .inl (fun _ => 0)))] sz) := by
  refine vx_ofW (cc := cX6_differs) (maxL := 5) (ret := (some .int)) (by decide) rfl ?_
  intro p e s m args below meth c s₁ B hml hnt hv
  obtain ⟨rfl, hsz, hP, hK, hD0, hX, hT⟩ := hv
  have hx := B.exec
  have hb := B.bytes
  have hr := B.returns
  have hts0 := atoms_spec (ws := .code yX6_differs cX6_differs 5 (some .int) :: wsL_law) B.pre
  have hts := xTail hts0
  have hown : s.vm.findClass RX6 = some m.cls := findClass_of_methodNamed B.named
  have hlocks := B.notSynchronized
  subst hsz
  have hD := hD0.self (sz := s.heap.size)
  generalize hAe : va_A [(h0, .inr (6, [.ref h1, .ref h2, .ref h3])), (h1, .inr (2, [.ref h4, .ref h5, .ref h6, .ref h7])), (h2, .inr (5, [.ref h1, .int 0])), (h3, .inr (4, [.ref h1, .ref h8, .int 0])), (h4, .inr (0, [.int 0, .ref z.1, .int 0])), (h5, .inr (0, [.int 0, .ref z.1, .int 0])), (h6, .inr (0, [.int 0, .ref z.1, .int 0])), (h7, .inr (0, [.int 0, .ref z.1, .int 0])), (h8, .inl (kc0, 8, .inl (fun _ => 0)))] s.heap.size = A at hD hX ⊢
  have hA : ∀ q : Nat, s.heap.size ≤ q → A q := fun q h => by rw [← hAe]; exact Or.inr h
  have hS : va_S A s.heap s.heap [] := va_S.rf
  have hl := lv_entry ([.ref h0, .int p0, .int p1]) (n := 5) (Nat.le_of_ble_eq_true rfl)
  rw [lg_entry_eq]
  generalize (lg_sl ([.ref h0, .int p0, .int p1]) ++ List.replicate (5 - (lg_sl ([.ref h0, .int p0, .int p1])).length) Slot.unset).toArray = ls at hl ⊢
  have hl : lv_has ls 5 [(0, .ref h0), (1, .int p0), (2, .int p1)] := hl
  refine lv_aload_n hx hb dX6_differs_0 rfl (lv_at hl 0 rfl) ?_
  refine lv_iload_n hx hb dX6_differs_1 rfl (lv_at hl 1 rfl) ?_
  have hF1 := va_free (wc := [(h0, .inr (6, [.ref h1, .ref h2, .ref h3])), (h1, .inr (2, [.ref h4, .ref h5, .ref h6, .ref h7])), (h2, .inr (5, [.ref h1, .int 0])), (h3, .inr (4, [.ref h1, .ref h8, .int 0])), (h4, .inr (0, [.int 0, .ref z.1, .int 0])), (h5, .inr (0, [.int 0, .ref z.1, .int 0])), (h6, .inr (0, [.int 0, .ref z.1, .int 0])), (h7, .inr (0, [.int 0, .ref z.1, .int 0])), (h8, .inl (kc0, 8, .inl (fun _ => 0)))]) hD hS hA [0, 1, 2, 3, 4, 5, 6, 7, 8] rfl
  refine vx_callq (SX := Unit) (vx_runV (As := [.int p0]) (rest := []) ⟨hx, hb, hml, hown, hts⟩ (k89_netAt l hl9 dC dI z h0 h1 h2 h3 h4 h5 h6 h7 h8 s.heap.size p0 kc0) (cwV 1 hts (gV q_346 q_347 q_348 q_69 q_345) rfl rfl rfl (by decide +kernel) ⟨Nat.le_of_ble_eq_true rfl, Nat.le_of_ble_eq_true rfl⟩) ⟨pc_blind, va_recv hK hP (ci := 6) (q0 := 0) rfl rfl, fun U hU hW => ⟨rfl, pc_mk hP hD hK hS hX hT [0, 1, 2, 3, 4, 5, 6, 7, 8] [0] rfl rfl rfl rfl hF1 hU hW⟩⟩ rfl rfl hl.1 rfl (lv_room (Nat.le_of_ble_eq_true rfl)) dX6_differs_2 ⟨(Nat.le_of_ble_eq_true rfl), (Nat.le_of_ble_eq_true rfl)⟩) hS (fun q9 _ h9 => hF1 q9 h9) hF1 (fun q9 _ h9 => hF1 q9 h9) (fun E3 ce3 x3 v3 t3 H3 L3 ht3 hvm3 hw3 hB3 hz3 hk3 hS hc3 hn3 hf3 => ?_) (fun _ _ _ _ _ _ _ hw9 _ _ _ _ => hw9.elim)
  obtain ⟨hP, hD⟩ := pq_rest (wr := []) hP hD [0, 1, 2, 3, 4, 5, 6, 7, 8] [] rfl rfl (by decide) (by decide) hk3 hF1
  exact vx_out (fun x9 hx9 => (hnt x9 hx9).elim) hlocks hc3 hn3 hf3 (fun t9 ht9 hv9 => ⟨(), trivial, hB3, hS.F ht9⟩) hS.2.2 (by decide) (by decide)

set_option maxHeartbeats 4000000 in
set_option maxRecDepth 100000 in
theorem k248_differs (l : Launch) (hl9 : l.stackTraces = false) (dC : Nat → ClassId) (dI : Nat → Nat → Nat) (z : XZ) (h0 h1 h2 h3 h4 h5 h6 h7 h8 h9 : Nat) (sz : Nat) (p0 p1 : Int32) (kc0 kc1 : ClassId) : Met l yL_differs (.codeWith yL_differs cL_differs 5 (some .int) [(0, 10, 13, 23)] :: wsL_law) ({ frames := 9, cells := 1, slots := 6, locals := 145 }) (va_Pc [.ref h0, .int p0, .int p1, .ref h1] (PC (dC, dI) [(h0, .inr (6, [.ref h2, .ref h3, .ref h4])), (h1, .inl (kc0, 1, .inr (.inl (fun _ => 0)))), (h2, .inr (2, [.ref h5, .ref h6, .ref h7, .ref h8])), (h3, .inr (5, [.ref h2, .int 0])), (h4, .inr (4, [.ref h2, .ref h9, .int 0])), (h5, .inr (0, [.int 0, .ref z.1, .int 0])), (h6, .inr (0, [.int 0, .ref z.1, .int 0])), (h7, .inr (0, [.int 0, .ref z.1, .int 0])), (h8, .inr (0, [.int 0, .ref z.1, .int 0])), (h9, .inl (kc1, 8, .inl (fun _ => 0)))] [(kc0, .long), (kc1, .int)] sz z)) (va_Qi (fun (r : Int32) (_ : Unit) => r = 1) (fun (_ : Unit) (t : State) => PQ (dC, dI) [(h1, .inl (kc0, 1, .inr (.inl (fun _ => 0))))] [(kc0, .long)] (va_A [(h0, .inr (6, [.ref h2, .ref h3, .ref h4])), (h1, .inl (kc0, 1, .inr (.inl (fun _ => 0)))), (h2, .inr (2, [.ref h5, .ref h6, .ref h7, .ref h8])), (h3, .inr (5, [.ref h2, .int 0])), (h4, .inr (4, [.ref h2, .ref h9, .int 0])), (h5, .inr (0, [.int 0, .ref z.1, .int 0])), (h6, .inr (0, [.int 0, .ref z.1, .int 0])), (h7, .inr (0, [.int 0, .ref z.1, .int 0])), (h8, .inr (0, [.int 0, .ref z.1, .int 0])), (h9, .inl (kc1, 8, .inl (fun _ => 0)))] sz) t) (va_A [(h0, .inr (6, [.ref h2, .ref h3, .ref h4])), (h1, .inl (kc0, 1, .inr (.inl (fun _ => 0)))), (h2, .inr (2, [.ref h5, .ref h6, .ref h7, .ref h8])), (h3, .inr (5, [.ref h2, .int 0])), (h4, .inr (4, [.ref h2, .ref h9, .int 0])), (h5, .inr (0, [.int 0, .ref z.1, .int 0])), (h6, .inr (0, [.int 0, .ref z.1, .int 0])), (h7, .inr (0, [.int 0, .ref z.1, .int 0])), (h8, .inr (0, [.int 0, .ref z.1, .int 0])), (h9, .inl (kc1, 8, .inl (fun _ => 0)))] sz)) 1 6 (va_A [(h0, .inr (6, [.ref h2, .ref h3, .ref h4])), (h1, .inl (kc0, 1, .inr (.inl (fun _ => 0)))), (h2, .inr (2, [.ref h5, .ref h6, .ref h7, .ref h8])), (h3, .inr (5, [.ref h2, .int 0])), (h4, .inr (4, [.ref h2, .ref h9, .int 0])), (h5, .inr (0, [.int 0, .ref z.1, .int 0])), (h6, .inr (0, [.int 0, .ref z.1, .int 0])), (h7, .inr (0, [.int 0, .ref z.1, .int 0])), (h8, .inr (0, [.int 0, .ref z.1, .int 0])), (h9, .inl (kc1, 8, .inl (fun _ => 0)))] sz) := by
  refine va_MetW (cc := cL_differs) (maxL := 5) (ret := (some .int)) (hh := [(0, 10, 13, 23)]) (by decide) rfl ?_
  intro p e s m args below meth c s₁ B hml hv
  obtain ⟨rfl, hsz, hP, hK, hD0, hX, hT⟩ := hv
  have hx := B.exec
  have hb := B.bytes
  have hr := B.returns
  have hts0 := atoms_spec (ws := .codeWith yL_differs cL_differs 5 (some .int) [(0, 10, 13, 23)] :: wsL_law) B.pre
  have htab := vx_table B (hts0 _ List.mem_cons_self)
  have hts := xTail hts0
  have hown : s.vm.findClass RL = some m.cls := findClass_of_methodNamed B.named
  have hlocks := B.notSynchronized
  subst hsz
  have hD := hD0.self (sz := s.heap.size)
  generalize hAe : va_A [(h0, .inr (6, [.ref h2, .ref h3, .ref h4])), (h1, .inl (kc0, 1, .inr (.inl (fun _ => 0)))), (h2, .inr (2, [.ref h5, .ref h6, .ref h7, .ref h8])), (h3, .inr (5, [.ref h2, .int 0])), (h4, .inr (4, [.ref h2, .ref h9, .int 0])), (h5, .inr (0, [.int 0, .ref z.1, .int 0])), (h6, .inr (0, [.int 0, .ref z.1, .int 0])), (h7, .inr (0, [.int 0, .ref z.1, .int 0])), (h8, .inr (0, [.int 0, .ref z.1, .int 0])), (h9, .inl (kc1, 8, .inl (fun _ => 0)))] s.heap.size = A at hD hX ⊢
  have hA : ∀ q : Nat, s.heap.size ≤ q → A q := fun q h => by rw [← hAe]; exact Or.inr h
  have hS : va_S A s.heap s.heap [] := va_S.rf
  have hl := lv_entry ([.ref h0, .int p0, .int p1, .ref h1]) (n := 5) (Nat.le_of_ble_eq_true rfl)
  rw [lg_entry_eq]
  generalize (lg_sl ([.ref h0, .int p0, .int p1, .ref h1]) ++ List.replicate (5 - (lg_sl ([.ref h0, .int p0, .int p1, .ref h1])).length) Slot.unset).toArray = ls at hl ⊢
  have hl : lv_has ls 5 [(0, .ref h0), (1, .int p0), (2, .int p1), (3, .ref h1)] := hl
  refine lv_aload_n hx hb dL_differs_0 rfl (lv_at hl 3 rfl) ?_
  refine lv_iconst (v := 0) hx hb dL_differs_1 (by decide) ?_
  refine lv_aload_n hx hb dL_differs_2 rfl (lv_at hl 0 rfl) ?_
  refine lv_iload_n hx hb dL_differs_3 rfl (lv_at hl 1 rfl) ?_
  refine lv_iload_n hx hb dL_differs_4 rfl (lv_at hl 2 rfl) ?_
  have hF1 := va_free (wc := [(h0, .inr (6, [.ref h2, .ref h3, .ref h4])), (h2, .inr (2, [.ref h5, .ref h6, .ref h7, .ref h8])), (h3, .inr (5, [.ref h2, .int 0])), (h4, .inr (4, [.ref h2, .ref h9, .int 0])), (h5, .inr (0, [.int 0, .ref z.1, .int 0])), (h6, .inr (0, [.int 0, .ref z.1, .int 0])), (h7, .inr (0, [.int 0, .ref z.1, .int 0])), (h8, .inr (0, [.int 0, .ref z.1, .int 0])), (h9, .inl (kc1, 8, .inl (fun _ => 0)))]) hD hS hA [0, 2, 3, 4, 5, 6, 7, 8, 9] rfl
  refine vx_calli (SX := Unit) (vx_runV (As := [.int p0, .int p1]) (rest := [.int 0, .ref h1]) ⟨hx, hb, hml, hown, hts⟩ (k247_differs l hl9 dC dI z h0 h2 h3 h4 h5 h6 h7 h8 h9 s.heap.size p0 p1 kc1) (cwV 2 hts (gV q_567 q_568 q_569 q_69 q_566) rfl rfl rfl (by decide +kernel) ⟨Nat.le_of_ble_eq_true rfl, Nat.le_of_ble_eq_true rfl⟩) ⟨pc_blind, va_recv hK hP (ci := 6) (q0 := 0) rfl rfl, fun U hU hW => ⟨rfl, pc_mk hP hD hK hS hX hT [0, 2, 3, 4, 5, 6, 7, 8, 9] [1] rfl rfl rfl rfl hF1 hU hW⟩⟩ rfl rfl hl.1 rfl (lv_room (Nat.le_of_ble_eq_true rfl)) dL_differs_5 ⟨(Nat.le_of_ble_eq_true rfl), (Nat.le_of_ble_eq_true rfl)⟩) hS (fun q9 _ h9 => hF1 q9 h9) hF1 (fun q9 _ h9 => hF1 q9 h9) (fun E3 ce3 x3 v3 t3 H3 L3 ht3 hvm3 hw3 hB3 hz3 hk3 hS hc3 hn3 hf3 => ?_) (fun _ _ _ _ _ _ _ hw9 _ _ _ _ => hw9.elim)
  obtain ⟨hP, hD⟩ := pq_rest (wr := [(h1, .inl (kc0, 1, .inr (.inl (fun _ => 0))))]) hP hD [0, 2, 3, 4, 5, 6, 7, 8, 9] [1] rfl rfl (by decide) (by decide) hk3 hF1
  subst hB3
  refine vx_catch (own := RL) (name := "java/lang/IndexOutOfBoundsException") hown [] ⟨0, 10, 13, 23⟩ [] htab (fun z9 hz9 => absurd hz9 List.not_mem_nil) (by decide) (by decide) (hts _ q_387) (va_Nw.use rfl (hT.2.1.1 ("java/lang/IndexOutOfBoundsException", "java/lang/IndexOutOfBoundsException") (by decide))) hc3 hn3 hf3 ?_
  refine lv_astore (lv' := [(4, .ref x3), (0, .ref h0), (1, .int p0), (2, .int p1), (3, .ref h1)]) hx hb dL_differs_13 hl (by decide) rfl (fun ls hl => ?_)
  refine lv_iconst (v := 1) hx hb dL_differs_15 (by decide) ?_
  exact W.iret (v := 1) hx hb hr (fun t9 ht9 hW9 => ⟨⟨1, (), rfl, rfl, pq_mk (wc := [(h1, .inl (kc0, 1, .inr (.inl (fun _ => 0))))]) (tc := [(kc0, .long)]) hP hD hK [0] [0] rfl rfl rfl rfl ht9 hW9⟩, hS.F ht9⟩) hS.2.2 dL_differs_16

set_option maxHeartbeats 4000000 in
set_option maxRecDepth 100000 in
theorem k249_differs (l : Launch) (hl9 : l.stackTraces = false) (dC : Nat → ClassId) (dI : Nat → Nat → Nat) (z : XZ) (h0 h1 h2 h3 h4 : Nat) (sz : Nat) (p0 p1 : Int32) : Met l yX9_differs (.code yX9_differs cX9_differs 5 (some .int) :: wsL_law) ({ frames := 2, cells := 0, slots := 0, locals := 43 }) (va_Pc [.ref h0, .int p0, .int p1] (PC (dC, dI) [(h0, .inr (8, [.int 0, .ref h1, .ref h2, .ref h3, .ref h4, .int 0])), (h1, .inr (0, [.int 0, .ref z.1, .int 0])), (h2, .inr (0, [.int 0, .ref z.1, .int 0])), (h3, .inr (0, [.int 0, .ref z.1, .int 0])), (h4, .inr (0, [.int 0, .ref z.1, .int 0]))] [] sz z)) (va_Qi (fun (r : Int32) (_ : Unit) => r = 0) (fun (_ : Unit) (t : State) => PQ (dC, dI) [(h0, .inr (8, [.int 1, .ref h1, .ref h2, .ref h3, .ref h4, .int 0])), (h1, .inr (0, [.int 0, .ref z.1, .int 0])), (h2, .inr (0, [.int 0, .ref z.1, .int 0])), (h3, .inr (0, [.int 0, .ref z.1, .int 0])), (h4, .inr (0, [.int 0, .ref z.1, .int 0]))] [] (va_A [(h0, .inr (8, [.int 0, .ref h1, .ref h2, .ref h3, .ref h4, .int 0])), (h1, .inr (0, [.int 0, .ref z.1, .int 0])), (h2, .inr (0, [.int 0, .ref z.1, .int 0])), (h3, .inr (0, [.int 0, .ref z.1, .int 0])), (h4, .inr (0, [.int 0, .ref z.1, .int 0]))] sz) t) (va_A [(h0, .inr (8, [.int 0, .ref h1, .ref h2, .ref h3, .ref h4, .int 0])), (h1, .inr (0, [.int 0, .ref z.1, .int 0])), (h2, .inr (0, [.int 0, .ref z.1, .int 0])), (h3, .inr (0, [.int 0, .ref z.1, .int 0])), (h4, .inr (0, [.int 0, .ref z.1, .int 0]))] sz)) 0 0 (va_A [(h0, .inr (8, [.int 0, .ref h1, .ref h2, .ref h3, .ref h4, .int 0])), (h1, .inr (0, [.int 0, .ref z.1, .int 0])), (h2, .inr (0, [.int 0, .ref z.1, .int 0])), (h3, .inr (0, [.int 0, .ref z.1, .int 0])), (h4, .inr (0, [.int 0, .ref z.1, .int 0]))] sz) := by
  refine Met.ofW (cc := cX9_differs) (maxL := 5) (ret := (some .int)) (by decide) rfl ?_
  intro p e s m args below meth c s₁ B hml hv
  obtain ⟨rfl, hsz, hP, hK, hD0, hX, hT⟩ := hv
  have hx := B.exec
  have hb := B.bytes
  have hr := B.returns
  have hts0 := atoms_spec (ws := .code yX9_differs cX9_differs 5 (some .int) :: wsL_law) B.pre
  have hts := xTail hts0
  have hown : s.vm.findClass RX9 = some m.cls := findClass_of_methodNamed B.named
  have hlocks := B.notSynchronized
  subst hsz
  have hD := hD0.self (sz := s.heap.size)
  generalize hAe : va_A [(h0, .inr (8, [.int 0, .ref h1, .ref h2, .ref h3, .ref h4, .int 0])), (h1, .inr (0, [.int 0, .ref z.1, .int 0])), (h2, .inr (0, [.int 0, .ref z.1, .int 0])), (h3, .inr (0, [.int 0, .ref z.1, .int 0])), (h4, .inr (0, [.int 0, .ref z.1, .int 0]))] s.heap.size = A at hD hX ⊢
  have hA : ∀ q : Nat, s.heap.size ≤ q → A q := fun q h => by rw [← hAe]; exact Or.inr h
  have hS : va_S A s.heap s.heap [] := va_S.rf
  have hl := lv_entry ([.ref h0, .int p0, .int p1]) (n := 5) (Nat.le_of_ble_eq_true rfl)
  rw [lg_entry_eq]
  generalize (lg_sl ([.ref h0, .int p0, .int p1]) ++ List.replicate (5 - (lg_sl ([.ref h0, .int p0, .int p1])).length) Slot.unset).toArray = ls at hl ⊢
  have hl : lv_has ls 5 [(0, .ref h0), (1, .int p0), (2, .int p1)] := hl
  refine lv_aload_n hx hb dX9_differs_0 rfl (lv_at hl 0 rfl) ?_
  refine lv_iconst (v := 0) hx hb dX9_differs_1 (by decide) ?_
  refine va_put (D := (dC, dI)) (ci := 8) (v := .int 0) (ty := .int) (C := RX9) (T := TX9) (N := 6) hx hb hts in_X9 tyX9 tyX9_ok nmX9 hown hK hP hD hS 0 rfl rfl 0 (by decide) (hts _ q_230) (fun _ h9 => h9) rfl (by decide +kernel) rfl rfl (Nat.le_of_ble_eq_true rfl) dX9_differs_2 (fun H1 _ hP hD hS => ?_)
  have hP : va_P (dC, dI) xCl [(h0, .inr (8, [.int 0, .ref h1, .ref h2, .ref h3, .ref h4, .int 0])), (h1, .inr (0, [.int 0, .ref z.1, .int 0])), (h2, .inr (0, [.int 0, .ref z.1, .int 0])), (h3, .inr (0, [.int 0, .ref z.1, .int 0])), (h4, .inr (0, [.int 0, .ref z.1, .int 0]))] H1 := hP
  have hD : va_D A [(h0, .inr (8, [.int 0, .ref h1, .ref h2, .ref h3, .ref h4, .int 0])), (h1, .inr (0, [.int 0, .ref z.1, .int 0])), (h2, .inr (0, [.int 0, .ref z.1, .int 0])), (h3, .inr (0, [.int 0, .ref z.1, .int 0])), (h4, .inr (0, [.int 0, .ref z.1, .int 0]))] := hD
  refine lv_aload_n hx hb dX9_differs_5 rfl (lv_at hl 0 rfl) ?_
  refine lv_aload_n hx hb dX9_differs_6 rfl (lv_at hl 0 rfl) ?_
  refine lv_iload_n hx hb dX9_differs_7 rfl (lv_at hl 1 rfl) ?_
  have hF2 := va_free (wc := [(h0, .inr (8, [.int 0, .ref h1, .ref h2, .ref h3, .ref h4, .int 0])), (h1, .inr (0, [.int 0, .ref z.1, .int 0])), (h2, .inr (0, [.int 0, .ref z.1, .int 0])), (h3, .inr (0, [.int 0, .ref z.1, .int 0])), (h4, .inr (0, [.int 0, .ref z.1, .int 0]))]) hD hS hA [0, 1, 2, 3, 4] rfl
  refine va_calli (va_runV (As := [.int p0]) (rest := [.ref h0]) ⟨hx, hb, hml, hown, hts⟩ (k195_no l hl9 dC dI z h0 h1 h2 h3 h4 H1.size p0) (cwV 1 hts (gV q_395 q_396 q_397 q_255 q_394) rfl rfl rfl (by decide +kernel) ⟨Nat.le_of_ble_eq_true rfl, Nat.le_of_ble_eq_true rfl⟩) ⟨pc_blind, va_recv hK hP (ci := 8) (q0 := 0) rfl rfl, fun U hU hW => ⟨rfl, pc_mk hP hD hK hS hX hT [0, 1, 2, 3, 4] [] rfl rfl rfl rfl hF2 hU hW⟩⟩ rfl rfl hl.1 rfl (lv_room (Nat.le_of_ble_eq_true rfl)) dX9_differs_8 ⟨(Nat.le_of_ble_eq_true rfl), (Nat.le_of_ble_eq_true rfl)⟩) hS (fun q9 _ h9 => hF2 q9 h9) hF2 (fun r5 u4 t4 H4 L4 ht4 hvm4 hw4 hB4 hz4 hk4 hS => ?_)
  obtain ⟨hP, hD, hK⟩ := pq_join (wr := []) (tr := []) (wz := [(h0, .inr (8, [.int 0, .ref h1, .ref h2, .ref h3, .ref h4, .int 0])), (h1, .inr (0, [.int 0, .ref z.1, .int 0])), (h2, .inr (0, [.int 0, .ref z.1, .int 0])), (h3, .inr (0, [.int 0, .ref z.1, .int 0])), (h4, .inr (0, [.int 0, .ref z.1, .int 0]))]) (tz := []) hP hD hK [0, 1, 2, 3, 4] [] [] rfl rfl (by decide) (by decide) rfl hk4 hF2 hB4 ht4 hvm4 rfl rfl
  refine W.eq (g2 := F0 m 11 ls [.int 1, .ref h0]) (by rw [hw4]) ?_
  refine lv_if_ne (tgt := 22) hx hb dX9_differs_11 (by decide) (fun _ => ?_) (fun cz => absurd cz (by decide))
  refine lv_iconst (v := 1) hx hb dX9_differs_22 (by decide) ?_
  refine lv_goto (tgt := 27) hx hb dX9_differs_23 (by decide) ?_
  refine lv_iconst (v := 1) hx hb dX9_differs_27 (by decide) ?_
  have hF6 := va_free (wc := [(h0, .inr (8, [.int 0, .ref h1, .ref h2, .ref h3, .ref h4, .int 0])), (h1, .inr (0, [.int 0, .ref z.1, .int 0])), (h2, .inr (0, [.int 0, .ref z.1, .int 0])), (h3, .inr (0, [.int 0, .ref z.1, .int 0])), (h4, .inr (0, [.int 0, .ref z.1, .int 0]))]) hD hS hA [0, 1, 2, 3, 4] rfl
  refine va_calli (va_runV (As := [.int 1, .int 1]) (rest := []) ⟨hx, hb, hml, hown, hts⟩ (k196_fails l hl9 dC dI z h0 h1 h2 h3 h4 H4.size) (cwV 2 hts (gV q_257 q_258 q_259 q_255 q_256) rfl rfl rfl (by decide +kernel) ⟨Nat.le_of_ble_eq_true rfl, Nat.le_of_ble_eq_true rfl⟩) ⟨pc_blind, va_recv hK hP (ci := 8) (q0 := 0) rfl rfl, fun U hU hW => ⟨rfl, pc_mk hP hD hK hS hX hT [0, 1, 2, 3, 4] [] rfl rfl rfl rfl hF6 hU hW⟩⟩ rfl rfl hl.1 rfl (lv_room (Nat.le_of_ble_eq_true rfl)) dX9_differs_28 ⟨(Nat.le_of_ble_eq_true rfl), (Nat.le_of_ble_eq_true rfl)⟩) hS (fun q9 _ h9 => hF6 q9 h9) hF6 (fun r9 u8 t8 H8 L8 ht8 hvm8 hw8 hB8 hz8 hk8 hS => ?_)
  obtain ⟨hP, hD, hK⟩ := pq_join (wr := []) (tr := []) (wz := [(h0, .inr (8, [.int 1, .ref h1, .ref h2, .ref h3, .ref h4, .int 0])), (h1, .inr (0, [.int 0, .ref z.1, .int 0])), (h2, .inr (0, [.int 0, .ref z.1, .int 0])), (h3, .inr (0, [.int 0, .ref z.1, .int 0])), (h4, .inr (0, [.int 0, .ref z.1, .int 0]))]) (tz := []) hP hD hK [0, 1, 2, 3, 4] [] [] rfl rfl (by decide) (by decide) rfl hk8 hF6 hB8 ht8 hvm8 rfl rfl
  refine W.eq (g2 := F0 m 31 ls [.int 1]) (by rw [hw8]) ?_
  refine lv_if_eq (tgt := 36) hx hb dX9_differs_31 (by decide) (fun cz => absurd cz (by decide)) (fun _ => ?_)
  refine lv_iconst (v := 0) hx hb dX9_differs_34 (by decide) ?_
  exact W.iret (v := 0) hx hb hr (fun t9 ht9 hW9 => ⟨⟨0, (), rfl, rfl, pq_mk (wc := [(h0, .inr (8, [.int 1, .ref h1, .ref h2, .ref h3, .ref h4, .int 0])), (h1, .inr (0, [.int 0, .ref z.1, .int 0])), (h2, .inr (0, [.int 0, .ref z.1, .int 0])), (h3, .inr (0, [.int 0, .ref z.1, .int 0])), (h4, .inr (0, [.int 0, .ref z.1, .int 0]))]) (tc := []) hP hD hK [0, 1, 2, 3, 4] [] rfl rfl rfl rfl ht9 hW9⟩, hS.F ht9⟩) hS.2.2 dX9_differs_35

set_option maxHeartbeats 4000000 in
set_option maxRecDepth 100000 in
theorem k250_shows (l : Launch) (hl9 : l.stackTraces = false) (dC : Nat → ClassId) (dI : Nat → Nat → Nat) (z : XZ) (h0 h1 h2 h3 h4 h5 h6 h7 h8 : Nat) (sz : Nat) (p0 p1 p2 : Int32) (kc0 : ClassId) : vx_Met l yX6_shows (.code yX6_shows cX6_shows 5 (some .boolean) :: wsL_law) ({ frames := 8, cells := 1, slots := 6, locals := 121 }) (va_Pc [.ref h0, .int p0, .int p1, .int p2] (PC (dC, dI) [(h0, .inr (6, [.ref h1, .ref h2, .ref h3])), (h1, .inr (2, [.ref h4, .ref h5, .ref h6, .ref h7])), (h2, .inr (5, [.ref h1, .int 0])), (h3, .inr (4, [.ref h1, .ref h8, .int 0])), (h4, .inr (0, [.int 0, .ref z.1, .int 0])), (h5, .inr (0, [.int 0, .ref z.1, .int 0])), (h6, .inr (0, [.int 0, .ref z.1, .int 0])), (h7, .inr (0, [.int 0, .ref z.1, .int 0])), (h8, .inl (kc0, 8, .inl (fun _ => 0)))] [(kc0, .int)] sz z)) (va_Qi (fun (_ : Int32) (_ : Unit) => False) (fun _ _ => True) (va_A [(h0, .inr (6, [.ref h1, .ref h2, .ref h3])), (h1, .inr (2, [.ref h4, .ref h5, .ref h6, .ref h7])), (h2, .inr (5, [.ref h1, .int 0])), (h3, .inr (4, [.ref h1, .ref h8, .int 0])), (h4, .inr (0, [.int 0, .ref z.1, .int 0])), (h5, .inr (0, [.int 0, .ref z.1, .int 0])), (h6, .inr (0, [.int 0, .ref z.1, .int 0])), (h7, .inr (0, [.int 0, .ref z.1, .int 0])), (h8, .inl (kc0, 8, .inl (fun _ => 0)))] sz)) (vx_X (fun (_ : Unit) => True) (fun (E : String) (_ : Unit) (_ : State) => E = "java/lang/IndexOutOfBoundsException") (va_A [(h0, .inr (6, [.ref h1, .ref h2, .ref h3])), (h1, .inr (2, [.ref h4, .ref h5, .ref h6, .ref h7])), (h2, .inr (5, [.ref h1, .int 0])), (h3, .inr (4, [.ref h1, .ref h8, .int 0])), (h4, .inr (0, [.int 0, .ref z.1, .int 0])), (h5, .inr (0, [.int 0, .ref z.1, .int 0])), (h6, .inr (0, [.int 0, .ref z.1, .int 0])), (h7, .inr (0, [.int 0, .ref z.1, .int 0])), (h8, .inl (kc0, 8, .inl (fun _ => 0)))] sz)) 1 6 (va_A [(h0, .inr (6, [.ref h1, .ref h2, .ref h3])), (h1, .inr (2, [.ref h4, .ref h5, .ref h6, .ref h7])), (h2, .inr (5, [.ref h1, .int 0])), (h3, .inr (4, [.ref h1, .ref h8, .int 0])), (h4, .inr (0, [.int 0, .ref z.1, .int 0])), (h5, .inr (0, [.int 0, .ref z.1, .int 0])), (h6, .inr (0, [.int 0, .ref z.1, .int 0])), (h7, .inr (0, [.int 0, .ref z.1, .int 0])), (h8, .inl (kc0, 8, .inl (fun _ => 0)))] sz) := by
  refine vx_ofW (cc := cX6_shows) (maxL := 5) (ret := (some .boolean)) (by decide) rfl ?_
  intro p e s m args below meth c s₁ B hml hnt hv
  obtain ⟨rfl, hsz, hP, hK, hD0, hX, hT⟩ := hv
  have hx := B.exec
  have hb := B.bytes
  have hr := B.returns
  have hts0 := atoms_spec (ws := .code yX6_shows cX6_shows 5 (some .boolean) :: wsL_law) B.pre
  have hts := xTail hts0
  have hown : s.vm.findClass RX6 = some m.cls := findClass_of_methodNamed B.named
  have hlocks := B.notSynchronized
  subst hsz
  have hD := hD0.self (sz := s.heap.size)
  generalize hAe : va_A [(h0, .inr (6, [.ref h1, .ref h2, .ref h3])), (h1, .inr (2, [.ref h4, .ref h5, .ref h6, .ref h7])), (h2, .inr (5, [.ref h1, .int 0])), (h3, .inr (4, [.ref h1, .ref h8, .int 0])), (h4, .inr (0, [.int 0, .ref z.1, .int 0])), (h5, .inr (0, [.int 0, .ref z.1, .int 0])), (h6, .inr (0, [.int 0, .ref z.1, .int 0])), (h7, .inr (0, [.int 0, .ref z.1, .int 0])), (h8, .inl (kc0, 8, .inl (fun _ => 0)))] s.heap.size = A at hD hX ⊢
  have hA : ∀ q : Nat, s.heap.size ≤ q → A q := fun q h => by rw [← hAe]; exact Or.inr h
  have hS : va_S A s.heap s.heap [] := va_S.rf
  have hl := lv_entry ([.ref h0, .int p0, .int p1, .int p2]) (n := 5) (Nat.le_of_ble_eq_true rfl)
  rw [lg_entry_eq]
  generalize (lg_sl ([.ref h0, .int p0, .int p1, .int p2]) ++ List.replicate (5 - (lg_sl ([.ref h0, .int p0, .int p1, .int p2])).length) Slot.unset).toArray = ls at hl ⊢
  have hl : lv_has ls 5 [(0, .ref h0), (1, .int p0), (2, .int p1), (3, .int p2)] := hl
  refine lv_aload_n hx hb dX6_shows_0 rfl (lv_at hl 0 rfl) ?_
  refine lv_iload_n hx hb dX6_shows_1 rfl (lv_at hl 1 rfl) ?_
  have hF1 := va_free (wc := [(h0, .inr (6, [.ref h1, .ref h2, .ref h3])), (h1, .inr (2, [.ref h4, .ref h5, .ref h6, .ref h7])), (h2, .inr (5, [.ref h1, .int 0])), (h3, .inr (4, [.ref h1, .ref h8, .int 0])), (h4, .inr (0, [.int 0, .ref z.1, .int 0])), (h5, .inr (0, [.int 0, .ref z.1, .int 0])), (h6, .inr (0, [.int 0, .ref z.1, .int 0])), (h7, .inr (0, [.int 0, .ref z.1, .int 0])), (h8, .inl (kc0, 8, .inl (fun _ => 0)))]) hD hS hA [0, 1, 2, 3, 4, 5, 6, 7, 8] rfl
  refine vx_callq (SX := Unit) (vx_runV (As := [.int p0]) (rest := []) ⟨hx, hb, hml, hown, hts⟩ (k89_netAt l hl9 dC dI z h0 h1 h2 h3 h4 h5 h6 h7 h8 s.heap.size p0 kc0) (cwV 1 hts (gV q_346 q_347 q_348 q_69 q_345) rfl rfl rfl (by decide +kernel) ⟨Nat.le_of_ble_eq_true rfl, Nat.le_of_ble_eq_true rfl⟩) ⟨pc_blind, va_recv hK hP (ci := 6) (q0 := 0) rfl rfl, fun U hU hW => ⟨rfl, pc_mk hP hD hK hS hX hT [0, 1, 2, 3, 4, 5, 6, 7, 8] [0] rfl rfl rfl rfl hF1 hU hW⟩⟩ rfl rfl hl.1 rfl (lv_room (Nat.le_of_ble_eq_true rfl)) dX6_shows_2 ⟨(Nat.le_of_ble_eq_true rfl), (Nat.le_of_ble_eq_true rfl)⟩) hS (fun q9 _ h9 => hF1 q9 h9) hF1 (fun q9 _ h9 => hF1 q9 h9) (fun E3 ce3 x3 v3 t3 H3 L3 ht3 hvm3 hw3 hB3 hz3 hk3 hS hc3 hn3 hf3 => ?_) (fun _ _ _ _ _ _ _ hw9 _ _ _ _ => hw9.elim)
  obtain ⟨hP, hD⟩ := pq_rest (wr := []) hP hD [0, 1, 2, 3, 4, 5, 6, 7, 8] [] rfl rfl (by decide) (by decide) hk3 hF1
  exact vx_out (fun x9 hx9 => (hnt x9 hx9).elim) hlocks hc3 hn3 hf3 (fun t9 ht9 hv9 => ⟨(), trivial, hB3, hS.F ht9⟩) hS.2.2 (by decide) (by decide)

set_option maxHeartbeats 4000000 in
set_option maxRecDepth 100000 in
theorem k251_shows (l : Launch) (hl9 : l.stackTraces = false) (dC : Nat → ClassId) (dI : Nat → Nat → Nat) (z : XZ) (h0 h1 h2 h3 h4 h5 h6 h7 h8 h9 : Nat) (sz : Nat) (p0 p1 p2 : Int32) (kc0 kc1 : ClassId) : Met l yL_shows (.codeWith yL_shows cL_shows 6 (some .int) [(0, 19, 22, 23), (0, 19, 26, 21), (0, 19, 30, 64)] :: wsL_law) ({ frames := 9, cells := 1, slots := 6, locals := 145 }) (va_Pc [.ref h0, .int p0, .int p1, .int p2, .ref h1] (PC (dC, dI) [(h0, .inr (6, [.ref h2, .ref h3, .ref h4])), (h1, .inl (kc0, 1, .inr (.inl (fun _ => 0)))), (h2, .inr (2, [.ref h5, .ref h6, .ref h7, .ref h8])), (h3, .inr (5, [.ref h2, .int 0])), (h4, .inr (4, [.ref h2, .ref h9, .int 0])), (h5, .inr (0, [.int 0, .ref z.1, .int 0])), (h6, .inr (0, [.int 0, .ref z.1, .int 0])), (h7, .inr (0, [.int 0, .ref z.1, .int 0])), (h8, .inr (0, [.int 0, .ref z.1, .int 0])), (h9, .inl (kc1, 8, .inl (fun _ => 0)))] [(kc0, .long), (kc1, .int)] sz z)) (va_Qi (fun (r : Int32) (_ : Unit) => r = 1) (fun (_ : Unit) (t : State) => PQ (dC, dI) [(h1, .inl (kc0, 1, .inr (.inl (fun _ => 0))))] [(kc0, .long)] (va_A [(h0, .inr (6, [.ref h2, .ref h3, .ref h4])), (h1, .inl (kc0, 1, .inr (.inl (fun _ => 0)))), (h2, .inr (2, [.ref h5, .ref h6, .ref h7, .ref h8])), (h3, .inr (5, [.ref h2, .int 0])), (h4, .inr (4, [.ref h2, .ref h9, .int 0])), (h5, .inr (0, [.int 0, .ref z.1, .int 0])), (h6, .inr (0, [.int 0, .ref z.1, .int 0])), (h7, .inr (0, [.int 0, .ref z.1, .int 0])), (h8, .inr (0, [.int 0, .ref z.1, .int 0])), (h9, .inl (kc1, 8, .inl (fun _ => 0)))] sz) t) (va_A [(h0, .inr (6, [.ref h2, .ref h3, .ref h4])), (h1, .inl (kc0, 1, .inr (.inl (fun _ => 0)))), (h2, .inr (2, [.ref h5, .ref h6, .ref h7, .ref h8])), (h3, .inr (5, [.ref h2, .int 0])), (h4, .inr (4, [.ref h2, .ref h9, .int 0])), (h5, .inr (0, [.int 0, .ref z.1, .int 0])), (h6, .inr (0, [.int 0, .ref z.1, .int 0])), (h7, .inr (0, [.int 0, .ref z.1, .int 0])), (h8, .inr (0, [.int 0, .ref z.1, .int 0])), (h9, .inl (kc1, 8, .inl (fun _ => 0)))] sz)) 1 6 (va_A [(h0, .inr (6, [.ref h2, .ref h3, .ref h4])), (h1, .inl (kc0, 1, .inr (.inl (fun _ => 0)))), (h2, .inr (2, [.ref h5, .ref h6, .ref h7, .ref h8])), (h3, .inr (5, [.ref h2, .int 0])), (h4, .inr (4, [.ref h2, .ref h9, .int 0])), (h5, .inr (0, [.int 0, .ref z.1, .int 0])), (h6, .inr (0, [.int 0, .ref z.1, .int 0])), (h7, .inr (0, [.int 0, .ref z.1, .int 0])), (h8, .inr (0, [.int 0, .ref z.1, .int 0])), (h9, .inl (kc1, 8, .inl (fun _ => 0)))] sz) := by
  refine va_MetW (cc := cL_shows) (maxL := 6) (ret := (some .int)) (hh := [(0, 19, 22, 23), (0, 19, 26, 21), (0, 19, 30, 64)]) (by decide) rfl ?_
  intro p e s m args below meth c s₁ B hml hv
  obtain ⟨rfl, hsz, hP, hK, hD0, hX, hT⟩ := hv
  have hx := B.exec
  have hb := B.bytes
  have hr := B.returns
  have hts0 := atoms_spec (ws := .codeWith yL_shows cL_shows 6 (some .int) [(0, 19, 22, 23), (0, 19, 26, 21), (0, 19, 30, 64)] :: wsL_law) B.pre
  have htab := vx_table B (hts0 _ List.mem_cons_self)
  have hts := xTail hts0
  have hown : s.vm.findClass RL = some m.cls := findClass_of_methodNamed B.named
  have hlocks := B.notSynchronized
  subst hsz
  have hD := hD0.self (sz := s.heap.size)
  generalize hAe : va_A [(h0, .inr (6, [.ref h2, .ref h3, .ref h4])), (h1, .inl (kc0, 1, .inr (.inl (fun _ => 0)))), (h2, .inr (2, [.ref h5, .ref h6, .ref h7, .ref h8])), (h3, .inr (5, [.ref h2, .int 0])), (h4, .inr (4, [.ref h2, .ref h9, .int 0])), (h5, .inr (0, [.int 0, .ref z.1, .int 0])), (h6, .inr (0, [.int 0, .ref z.1, .int 0])), (h7, .inr (0, [.int 0, .ref z.1, .int 0])), (h8, .inr (0, [.int 0, .ref z.1, .int 0])), (h9, .inl (kc1, 8, .inl (fun _ => 0)))] s.heap.size = A at hD hX ⊢
  have hA : ∀ q : Nat, s.heap.size ≤ q → A q := fun q h => by rw [← hAe]; exact Or.inr h
  have hS : va_S A s.heap s.heap [] := va_S.rf
  have hl := lv_entry ([.ref h0, .int p0, .int p1, .int p2, .ref h1]) (n := 6) (Nat.le_of_ble_eq_true rfl)
  rw [lg_entry_eq]
  generalize (lg_sl ([.ref h0, .int p0, .int p1, .int p2, .ref h1]) ++ List.replicate (6 - (lg_sl ([.ref h0, .int p0, .int p1, .int p2, .ref h1])).length) Slot.unset).toArray = ls at hl ⊢
  have hl : lv_has ls 6 [(0, .ref h0), (1, .int p0), (2, .int p1), (3, .int p2), (4, .ref h1)] := hl
  refine lv_aload hx hb dL_shows_0 (lv_at hl 4 rfl) ?_
  refine lv_iconst (v := 0) hx hb dL_shows_2 (by decide) ?_
  refine lv_aload_n hx hb dL_shows_3 rfl (lv_at hl 0 rfl) ?_
  refine lv_iload_n hx hb dL_shows_4 rfl (lv_at hl 1 rfl) ?_
  refine lv_iload_n hx hb dL_shows_5 rfl (lv_at hl 2 rfl) ?_
  refine lv_iload_n hx hb dL_shows_6 rfl (lv_at hl 3 rfl) ?_
  have hF1 := va_free (wc := [(h0, .inr (6, [.ref h2, .ref h3, .ref h4])), (h2, .inr (2, [.ref h5, .ref h6, .ref h7, .ref h8])), (h3, .inr (5, [.ref h2, .int 0])), (h4, .inr (4, [.ref h2, .ref h9, .int 0])), (h5, .inr (0, [.int 0, .ref z.1, .int 0])), (h6, .inr (0, [.int 0, .ref z.1, .int 0])), (h7, .inr (0, [.int 0, .ref z.1, .int 0])), (h8, .inr (0, [.int 0, .ref z.1, .int 0])), (h9, .inl (kc1, 8, .inl (fun _ => 0)))]) hD hS hA [0, 2, 3, 4, 5, 6, 7, 8, 9] rfl
  refine vx_calli (SX := Unit) (vx_runV (As := [.int p0, .int p1, .int p2]) (rest := [.int 0, .ref h1]) ⟨hx, hb, hml, hown, hts⟩ (k250_shows l hl9 dC dI z h0 h2 h3 h4 h5 h6 h7 h8 h9 s.heap.size p0 p1 p2 kc1) (cwV 3 hts (gV q_578 q_579 q_580 q_69 q_577) rfl rfl rfl (by decide +kernel) ⟨Nat.le_of_ble_eq_true rfl, Nat.le_of_ble_eq_true rfl⟩) ⟨pc_blind, va_recv hK hP (ci := 6) (q0 := 0) rfl rfl, fun U hU hW => ⟨rfl, pc_mk hP hD hK hS hX hT [0, 2, 3, 4, 5, 6, 7, 8, 9] [1] rfl rfl rfl rfl hF1 hU hW⟩⟩ rfl rfl hl.1 rfl (lv_room (Nat.le_of_ble_eq_true rfl)) dL_shows_7 ⟨(Nat.le_of_ble_eq_true rfl), (Nat.le_of_ble_eq_true rfl)⟩) hS (fun q9 _ h9 => hF1 q9 h9) hF1 (fun q9 _ h9 => hF1 q9 h9) (fun E3 ce3 x3 v3 t3 H3 L3 ht3 hvm3 hw3 hB3 hz3 hk3 hS hc3 hn3 hf3 => ?_) (fun _ _ _ _ _ _ _ hw9 _ _ _ _ => hw9.elim)
  obtain ⟨hP, hD⟩ := pq_rest (wr := [(h1, .inl (kc0, 1, .inr (.inl (fun _ => 0))))]) hP hD [0, 2, 3, 4, 5, 6, 7, 8, 9] [1] rfl rfl (by decide) (by decide) hk3 hF1
  subst hB3
  refine vx_catch (own := RL) (name := "java/lang/IndexOutOfBoundsException") hown [] ⟨0, 19, 22, 23⟩ [⟨0, 19, 26, 21⟩, ⟨0, 19, 30, 64⟩] htab (fun z9 hz9 => absurd hz9 List.not_mem_nil) (by decide) (by decide) (hts _ q_387) (va_Nw.use rfl (hT.2.1.1 ("java/lang/IndexOutOfBoundsException", "java/lang/IndexOutOfBoundsException") (by decide))) hc3 hn3 hf3 ?_
  refine lv_astore (lv' := [(5, .ref x3), (0, .ref h0), (1, .int p0), (2, .int p1), (3, .int p2), (4, .ref h1)]) hx hb dL_shows_22 hl (by decide) rfl (fun ls hl => ?_)
  refine lv_iconst (v := 1) hx hb dL_shows_24 (by decide) ?_
  exact W.iret (v := 1) hx hb hr (fun t9 ht9 hW9 => ⟨⟨1, (), rfl, rfl, pq_mk (wc := [(h1, .inl (kc0, 1, .inr (.inl (fun _ => 0))))]) (tc := [(kc0, .long)]) hP hD hK [0] [0] rfl rfl rfl rfl ht9 hW9⟩, hS.F ht9⟩) hS.2.2 dL_shows_25

set_option maxHeartbeats 4000000 in
set_option maxRecDepth 100000 in
theorem k252_cannot (l : Launch) (hl9 : l.stackTraces = false) (dC : Nat → ClassId) (dI : Nat → Nat → Nat) (z : XZ) (h0 h1 h2 h3 h4 : Nat) (sz : Nat) (p0 p1 : Int32) : Met l yX9_cannot (.code yX9_cannot cX9_cannot 3 (some .boolean) :: wsL_law) ({ frames := 2, cells := 0, slots := 0, locals := 43 }) (va_Pc [.ref h0, .int p0, .int p1] (PC (dC, dI) [(h0, .inr (8, [.int 0, .ref h1, .ref h2, .ref h3, .ref h4, .int 0])), (h1, .inr (0, [.int 0, .ref z.1, .int 0])), (h2, .inr (0, [.int 0, .ref z.1, .int 0])), (h3, .inr (0, [.int 0, .ref z.1, .int 0])), (h4, .inr (0, [.int 0, .ref z.1, .int 0]))] [] sz z)) (va_Qi (fun (r : Int32) (_ : Unit) => r = 1) (fun (_ : Unit) (t : State) => PQ (dC, dI) [(h0, .inr (8, [.int 1, .ref h1, .ref h2, .ref h3, .ref h4, .int 0])), (h1, .inr (0, [.int 0, .ref z.1, .int 0])), (h2, .inr (0, [.int 0, .ref z.1, .int 0])), (h3, .inr (0, [.int 0, .ref z.1, .int 0])), (h4, .inr (0, [.int 0, .ref z.1, .int 0]))] [] (va_A [(h0, .inr (8, [.int 0, .ref h1, .ref h2, .ref h3, .ref h4, .int 0])), (h1, .inr (0, [.int 0, .ref z.1, .int 0])), (h2, .inr (0, [.int 0, .ref z.1, .int 0])), (h3, .inr (0, [.int 0, .ref z.1, .int 0])), (h4, .inr (0, [.int 0, .ref z.1, .int 0]))] sz) t) (va_A [(h0, .inr (8, [.int 0, .ref h1, .ref h2, .ref h3, .ref h4, .int 0])), (h1, .inr (0, [.int 0, .ref z.1, .int 0])), (h2, .inr (0, [.int 0, .ref z.1, .int 0])), (h3, .inr (0, [.int 0, .ref z.1, .int 0])), (h4, .inr (0, [.int 0, .ref z.1, .int 0]))] sz)) 0 0 (va_A [(h0, .inr (8, [.int 0, .ref h1, .ref h2, .ref h3, .ref h4, .int 0])), (h1, .inr (0, [.int 0, .ref z.1, .int 0])), (h2, .inr (0, [.int 0, .ref z.1, .int 0])), (h3, .inr (0, [.int 0, .ref z.1, .int 0])), (h4, .inr (0, [.int 0, .ref z.1, .int 0]))] sz) := by
  refine Met.ofW (cc := cX9_cannot) (maxL := 3) (ret := (some .boolean)) (by decide) rfl ?_
  intro p e s m args below meth c s₁ B hml hv
  obtain ⟨rfl, hsz, hP, hK, hD0, hX, hT⟩ := hv
  have hx := B.exec
  have hb := B.bytes
  have hr := B.returns
  have hts0 := atoms_spec (ws := .code yX9_cannot cX9_cannot 3 (some .boolean) :: wsL_law) B.pre
  have hts := xTail hts0
  have hown : s.vm.findClass RX9 = some m.cls := findClass_of_methodNamed B.named
  have hlocks := B.notSynchronized
  subst hsz
  have hD := hD0.self (sz := s.heap.size)
  generalize hAe : va_A [(h0, .inr (8, [.int 0, .ref h1, .ref h2, .ref h3, .ref h4, .int 0])), (h1, .inr (0, [.int 0, .ref z.1, .int 0])), (h2, .inr (0, [.int 0, .ref z.1, .int 0])), (h3, .inr (0, [.int 0, .ref z.1, .int 0])), (h4, .inr (0, [.int 0, .ref z.1, .int 0]))] s.heap.size = A at hD hX ⊢
  have hA : ∀ q : Nat, s.heap.size ≤ q → A q := fun q h => by rw [← hAe]; exact Or.inr h
  have hS : va_S A s.heap s.heap [] := va_S.rf
  have hl := lv_entry ([.ref h0, .int p0, .int p1]) (n := 3) (Nat.le_of_ble_eq_true rfl)
  rw [lg_entry_eq]
  generalize (lg_sl ([.ref h0, .int p0, .int p1]) ++ List.replicate (3 - (lg_sl ([.ref h0, .int p0, .int p1])).length) Slot.unset).toArray = ls at hl ⊢
  have hl : lv_has ls 3 [(0, .ref h0), (1, .int p0), (2, .int p1)] := hl
  refine lv_aload_n hx hb dX9_cannot_0 rfl (lv_at hl 0 rfl) ?_
  refine lv_aload_n hx hb dX9_cannot_1 rfl (lv_at hl 0 rfl) ?_
  refine lv_iload_n hx hb dX9_cannot_2 rfl (lv_at hl 1 rfl) ?_
  have hF1 := va_free (wc := [(h0, .inr (8, [.int 0, .ref h1, .ref h2, .ref h3, .ref h4, .int 0])), (h1, .inr (0, [.int 0, .ref z.1, .int 0])), (h2, .inr (0, [.int 0, .ref z.1, .int 0])), (h3, .inr (0, [.int 0, .ref z.1, .int 0])), (h4, .inr (0, [.int 0, .ref z.1, .int 0]))]) hD hS hA [0, 1, 2, 3, 4] rfl
  refine va_calli (va_runV (As := [.int p0]) (rest := [.ref h0]) ⟨hx, hb, hml, hown, hts⟩ (k195_no l hl9 dC dI z h0 h1 h2 h3 h4 s.heap.size p0) (cwV 1 hts (gV q_395 q_396 q_397 q_255 q_394) rfl rfl rfl (by decide +kernel) ⟨Nat.le_of_ble_eq_true rfl, Nat.le_of_ble_eq_true rfl⟩) ⟨pc_blind, va_recv hK hP (ci := 8) (q0 := 0) rfl rfl, fun U hU hW => ⟨rfl, pc_mk hP hD hK hS hX hT [0, 1, 2, 3, 4] [] rfl rfl rfl rfl hF1 hU hW⟩⟩ rfl rfl hl.1 rfl (lv_room (Nat.le_of_ble_eq_true rfl)) dX9_cannot_3 ⟨(Nat.le_of_ble_eq_true rfl), (Nat.le_of_ble_eq_true rfl)⟩) hS (fun q9 _ h9 => hF1 q9 h9) hF1 (fun r4 u3 t3 H3 L3 ht3 hvm3 hw3 hB3 hz3 hk3 hS => ?_)
  obtain ⟨hP, hD, hK⟩ := pq_join (wr := []) (tr := []) (wz := [(h0, .inr (8, [.int 0, .ref h1, .ref h2, .ref h3, .ref h4, .int 0])), (h1, .inr (0, [.int 0, .ref z.1, .int 0])), (h2, .inr (0, [.int 0, .ref z.1, .int 0])), (h3, .inr (0, [.int 0, .ref z.1, .int 0])), (h4, .inr (0, [.int 0, .ref z.1, .int 0]))]) (tz := []) hP hD hK [0, 1, 2, 3, 4] [] [] rfl rfl (by decide) (by decide) rfl hk3 hF1 hB3 ht3 hvm3 rfl rfl
  refine W.eq (g2 := F0 m 6 ls [.int 1, .ref h0]) (by rw [hw3]) ?_
  refine lv_iconst (v := 1) hx hb dX9_cannot_6 (by decide) ?_
  have hF5 := va_free (wc := [(h0, .inr (8, [.int 0, .ref h1, .ref h2, .ref h3, .ref h4, .int 0])), (h1, .inr (0, [.int 0, .ref z.1, .int 0])), (h2, .inr (0, [.int 0, .ref z.1, .int 0])), (h3, .inr (0, [.int 0, .ref z.1, .int 0])), (h4, .inr (0, [.int 0, .ref z.1, .int 0]))]) hD hS hA [0, 1, 2, 3, 4] rfl
  refine va_calli (va_runV (As := [.int 1, .int 1]) (rest := []) ⟨hx, hb, hml, hown, hts⟩ (k196_fails l hl9 dC dI z h0 h1 h2 h3 h4 H3.size) (cwV 2 hts (gV q_257 q_258 q_259 q_255 q_256) rfl rfl rfl (by decide +kernel) ⟨Nat.le_of_ble_eq_true rfl, Nat.le_of_ble_eq_true rfl⟩) ⟨pc_blind, va_recv hK hP (ci := 8) (q0 := 0) rfl rfl, fun U hU hW => ⟨rfl, pc_mk hP hD hK hS hX hT [0, 1, 2, 3, 4] [] rfl rfl rfl rfl hF5 hU hW⟩⟩ rfl rfl hl.1 rfl (lv_room (Nat.le_of_ble_eq_true rfl)) dX9_cannot_7 ⟨(Nat.le_of_ble_eq_true rfl), (Nat.le_of_ble_eq_true rfl)⟩) hS (fun q9 _ h9 => hF5 q9 h9) hF5 (fun r8 u7 t7 H7 L7 ht7 hvm7 hw7 hB7 hz7 hk7 hS => ?_)
  obtain ⟨hP, hD, hK⟩ := pq_join (wr := []) (tr := []) (wz := [(h0, .inr (8, [.int 1, .ref h1, .ref h2, .ref h3, .ref h4, .int 0])), (h1, .inr (0, [.int 0, .ref z.1, .int 0])), (h2, .inr (0, [.int 0, .ref z.1, .int 0])), (h3, .inr (0, [.int 0, .ref z.1, .int 0])), (h4, .inr (0, [.int 0, .ref z.1, .int 0]))]) (tz := []) hP hD hK [0, 1, 2, 3, 4] [] [] rfl rfl (by decide) (by decide) rfl hk7 hF5 hB7 ht7 hvm7 rfl rfl
  refine W.eq (g2 := F0 m 10 ls [.int 1]) (by rw [hw7]) ?_
  refine lv_if_ne (tgt := 38) hx hb dX9_cannot_10 (by decide) (fun _ => ?_) (fun cz => absurd cz (by decide))
  refine lv_iconst (v := 1) hx hb dX9_cannot_38 (by decide) ?_
  refine lv_goto (tgt := 43) hx hb dX9_cannot_39 (by decide) ?_
  exact W.zret (v := 1) (ty := .boolean) hx hb hr rfl (fun t9 ht9 hW9 => ⟨⟨1, (), rfl, rfl, pq_mk (wc := [(h0, .inr (8, [.int 1, .ref h1, .ref h2, .ref h3, .ref h4, .int 0])), (h1, .inr (0, [.int 0, .ref z.1, .int 0])), (h2, .inr (0, [.int 0, .ref z.1, .int 0])), (h3, .inr (0, [.int 0, .ref z.1, .int 0])), (h4, .inr (0, [.int 0, .ref z.1, .int 0]))]) (tc := []) hP hD hK [0, 1, 2, 3, 4] [] rfl rfl rfl rfl ht9 hW9⟩, hS.F ht9⟩) hS.2.2 dX9_cannot_43

set_option maxHeartbeats 4000000 in
set_option maxRecDepth 100000 in
theorem k253_shows (l : Launch) (hl9 : l.stackTraces = false) (dC : Nat → ClassId) (dI : Nat → Nat → Nat) (z : XZ) (h0 h1 h2 h3 h4 : Nat) (sz : Nat) (p0 p1 p2 : Int32) : Met l yX9_shows (.code yX9_shows cX9_shows 4 (some .boolean) :: wsL_law) ({ frames := 3, cells := 0, slots := 0, locals := 65 }) (va_Pc [.ref h0, .int p0, .int p1, .int p2] (PC (dC, dI) [(h0, .inr (8, [.int 0, .ref h1, .ref h2, .ref h3, .ref h4, .int 0])), (h1, .inr (0, [.int 0, .ref z.1, .int 0])), (h2, .inr (0, [.int 0, .ref z.1, .int 0])), (h3, .inr (0, [.int 0, .ref z.1, .int 0])), (h4, .inr (0, [.int 0, .ref z.1, .int 0]))] [] sz z)) (va_Qi (fun (r : Int32) (_ : Unit) => r = 0) (fun (_ : Unit) (t : State) => PQ (dC, dI) [(h0, .inr (8, [.int 1, .ref h1, .ref h2, .ref h3, .ref h4, .int 0])), (h1, .inr (0, [.int 0, .ref z.1, .int 0])), (h2, .inr (0, [.int 0, .ref z.1, .int 0])), (h3, .inr (0, [.int 0, .ref z.1, .int 0])), (h4, .inr (0, [.int 0, .ref z.1, .int 0]))] [] (va_A [(h0, .inr (8, [.int 0, .ref h1, .ref h2, .ref h3, .ref h4, .int 0])), (h1, .inr (0, [.int 0, .ref z.1, .int 0])), (h2, .inr (0, [.int 0, .ref z.1, .int 0])), (h3, .inr (0, [.int 0, .ref z.1, .int 0])), (h4, .inr (0, [.int 0, .ref z.1, .int 0]))] sz) t) (va_A [(h0, .inr (8, [.int 0, .ref h1, .ref h2, .ref h3, .ref h4, .int 0])), (h1, .inr (0, [.int 0, .ref z.1, .int 0])), (h2, .inr (0, [.int 0, .ref z.1, .int 0])), (h3, .inr (0, [.int 0, .ref z.1, .int 0])), (h4, .inr (0, [.int 0, .ref z.1, .int 0]))] sz)) 0 0 (va_A [(h0, .inr (8, [.int 0, .ref h1, .ref h2, .ref h3, .ref h4, .int 0])), (h1, .inr (0, [.int 0, .ref z.1, .int 0])), (h2, .inr (0, [.int 0, .ref z.1, .int 0])), (h3, .inr (0, [.int 0, .ref z.1, .int 0])), (h4, .inr (0, [.int 0, .ref z.1, .int 0]))] sz) := by
  refine Met.ofW (cc := cX9_shows) (maxL := 4) (ret := (some .boolean)) (by decide) rfl ?_
  intro p e s m args below meth c s₁ B hml hv
  obtain ⟨rfl, hsz, hP, hK, hD0, hX, hT⟩ := hv
  have hx := B.exec
  have hb := B.bytes
  have hr := B.returns
  have hts0 := atoms_spec (ws := .code yX9_shows cX9_shows 4 (some .boolean) :: wsL_law) B.pre
  have hts := xTail hts0
  have hown : s.vm.findClass RX9 = some m.cls := findClass_of_methodNamed B.named
  have hlocks := B.notSynchronized
  subst hsz
  have hD := hD0.self (sz := s.heap.size)
  generalize hAe : va_A [(h0, .inr (8, [.int 0, .ref h1, .ref h2, .ref h3, .ref h4, .int 0])), (h1, .inr (0, [.int 0, .ref z.1, .int 0])), (h2, .inr (0, [.int 0, .ref z.1, .int 0])), (h3, .inr (0, [.int 0, .ref z.1, .int 0])), (h4, .inr (0, [.int 0, .ref z.1, .int 0]))] s.heap.size = A at hD hX ⊢
  have hA : ∀ q : Nat, s.heap.size ≤ q → A q := fun q h => by rw [← hAe]; exact Or.inr h
  have hS : va_S A s.heap s.heap [] := va_S.rf
  have hl := lv_entry ([.ref h0, .int p0, .int p1, .int p2]) (n := 4) (Nat.le_of_ble_eq_true rfl)
  rw [lg_entry_eq]
  generalize (lg_sl ([.ref h0, .int p0, .int p1, .int p2]) ++ List.replicate (4 - (lg_sl ([.ref h0, .int p0, .int p1, .int p2])).length) Slot.unset).toArray = ls at hl ⊢
  have hl : lv_has ls 4 [(0, .ref h0), (1, .int p0), (2, .int p1), (3, .int p2)] := hl
  refine lv_aload_n hx hb dX9_shows_0 rfl (lv_at hl 0 rfl) ?_
  refine lv_iconst (v := 0) hx hb dX9_shows_1 (by decide) ?_
  refine va_put (D := (dC, dI)) (ci := 8) (v := .int 0) (ty := .int) (C := RX9) (T := TX9) (N := 6) hx hb hts in_X9 tyX9 tyX9_ok nmX9 hown hK hP hD hS 0 rfl rfl 0 (by decide) (hts _ q_230) (fun _ h9 => h9) rfl (by decide +kernel) rfl rfl (Nat.le_of_ble_eq_true rfl) dX9_shows_2 (fun H1 _ hP hD hS => ?_)
  have hP : va_P (dC, dI) xCl [(h0, .inr (8, [.int 0, .ref h1, .ref h2, .ref h3, .ref h4, .int 0])), (h1, .inr (0, [.int 0, .ref z.1, .int 0])), (h2, .inr (0, [.int 0, .ref z.1, .int 0])), (h3, .inr (0, [.int 0, .ref z.1, .int 0])), (h4, .inr (0, [.int 0, .ref z.1, .int 0]))] H1 := hP
  have hD : va_D A [(h0, .inr (8, [.int 0, .ref h1, .ref h2, .ref h3, .ref h4, .int 0])), (h1, .inr (0, [.int 0, .ref z.1, .int 0])), (h2, .inr (0, [.int 0, .ref z.1, .int 0])), (h3, .inr (0, [.int 0, .ref z.1, .int 0])), (h4, .inr (0, [.int 0, .ref z.1, .int 0]))] := hD
  refine lv_aload_n hx hb dX9_shows_5 rfl (lv_at hl 0 rfl) ?_
  refine lv_iload_n hx hb dX9_shows_6 rfl (lv_at hl 1 rfl) ?_
  refine lv_iload_n hx hb dX9_shows_7 rfl (lv_at hl 2 rfl) ?_
  have hF2 := va_free (wc := [(h0, .inr (8, [.int 0, .ref h1, .ref h2, .ref h3, .ref h4, .int 0])), (h1, .inr (0, [.int 0, .ref z.1, .int 0])), (h2, .inr (0, [.int 0, .ref z.1, .int 0])), (h3, .inr (0, [.int 0, .ref z.1, .int 0])), (h4, .inr (0, [.int 0, .ref z.1, .int 0]))]) hD hS hA [0, 1, 2, 3, 4] rfl
  refine va_calli (va_runV (As := [.int p0, .int p1]) (rest := []) ⟨hx, hb, hml, hown, hts⟩ (k252_cannot l hl9 dC dI z h0 h1 h2 h3 h4 H1.size p0 p1) (cwV 2 hts (gV q_585 q_586 q_587 q_255 q_584) rfl rfl rfl (by decide +kernel) ⟨Nat.le_of_ble_eq_true rfl, Nat.le_of_ble_eq_true rfl⟩) ⟨pc_blind, va_recv hK hP (ci := 8) (q0 := 0) rfl rfl, fun U hU hW => ⟨rfl, pc_mk hP hD hK hS hX hT [0, 1, 2, 3, 4] [] rfl rfl rfl rfl hF2 hU hW⟩⟩ rfl rfl hl.1 rfl (lv_room (Nat.le_of_ble_eq_true rfl)) dX9_shows_8 ⟨(Nat.le_of_ble_eq_true rfl), (Nat.le_of_ble_eq_true rfl)⟩) hS (fun q9 _ h9 => hF2 q9 h9) hF2 (fun r5 u4 t4 H4 L4 ht4 hvm4 hw4 hB4 hz4 hk4 hS => ?_)
  obtain ⟨hP, hD, hK⟩ := pq_join (wr := []) (tr := []) (wz := [(h0, .inr (8, [.int 1, .ref h1, .ref h2, .ref h3, .ref h4, .int 0])), (h1, .inr (0, [.int 0, .ref z.1, .int 0])), (h2, .inr (0, [.int 0, .ref z.1, .int 0])), (h3, .inr (0, [.int 0, .ref z.1, .int 0])), (h4, .inr (0, [.int 0, .ref z.1, .int 0]))]) (tz := []) hP hD hK [0, 1, 2, 3, 4] [] [] rfl rfl (by decide) (by decide) rfl hk4 hF2 hB4 ht4 hvm4 rfl rfl
  refine W.eq (g2 := F0 m 11 ls [.int 1]) (by rw [hw4]) ?_
  refine lv_if_ne (tgt := 55) hx hb dX9_shows_11 (by decide) (fun _ => ?_) (fun cz => absurd cz (by decide))
  refine lv_iconst (v := 0) hx hb dX9_shows_55 (by decide) ?_
  exact W.zret (v := 0) (ty := .boolean) hx hb hr rfl (fun t9 ht9 hW9 => ⟨⟨0, (), rfl, rfl, pq_mk (wc := [(h0, .inr (8, [.int 1, .ref h1, .ref h2, .ref h3, .ref h4, .int 0])), (h1, .inr (0, [.int 0, .ref z.1, .int 0])), (h2, .inr (0, [.int 0, .ref z.1, .int 0])), (h3, .inr (0, [.int 0, .ref z.1, .int 0])), (h4, .inr (0, [.int 0, .ref z.1, .int 0]))]) (tc := []) hP hD hK [0, 1, 2, 3, 4] [] rfl rfl rfl rfl ht9 hW9⟩, hS.F ht9⟩) hS.2.2 dX9_shows_56

set_option maxHeartbeats 4000000 in
set_option maxRecDepth 100000 in
theorem k254_findTest (l : Launch) (hl9 : l.stackTraces = false) (dC : Nat → ClassId) (dI : Nat → Nat → Nat) (z : XZ) (h0 h1 h2 h3 h4 h5 h6 h7 h8 : Nat) (sz : Nat) (p0 p1 : Int32) (kc0 : ClassId) : vx_Met l yX6_findTest (.code yX6_findTest cX6_findTest 5 (some .int) :: wsL_law) ({ frames := 8, cells := 1, slots := 6, locals := 121 }) (va_Pc [.ref h0, .int p0, .int p1] (PC (dC, dI) [(h0, .inr (6, [.ref h1, .ref h2, .ref h3])), (h1, .inr (2, [.ref h4, .ref h5, .ref h6, .ref h7])), (h2, .inr (5, [.ref h1, .int 0])), (h3, .inr (4, [.ref h1, .ref h8, .int 0])), (h4, .inr (0, [.int 0, .ref z.1, .int 0])), (h5, .inr (0, [.int 0, .ref z.1, .int 0])), (h6, .inr (0, [.int 0, .ref z.1, .int 0])), (h7, .inr (0, [.int 0, .ref z.1, .int 0])), (h8, .inl (kc0, 8, .inl (fun _ => 0)))] [(kc0, .int)] sz z)) (va_Qi (fun (_ : Int32) (_ : Unit) => False) (fun _ _ => True) (va_A [(h0, .inr (6, [.ref h1, .ref h2, .ref h3])), (h1, .inr (2, [.ref h4, .ref h5, .ref h6, .ref h7])), (h2, .inr (5, [.ref h1, .int 0])), (h3, .inr (4, [.ref h1, .ref h8, .int 0])), (h4, .inr (0, [.int 0, .ref z.1, .int 0])), (h5, .inr (0, [.int 0, .ref z.1, .int 0])), (h6, .inr (0, [.int 0, .ref z.1, .int 0])), (h7, .inr (0, [.int 0, .ref z.1, .int 0])), (h8, .inl (kc0, 8, .inl (fun _ => 0)))] sz)) (vx_X (fun (_ : Unit) => True) (fun (E : String) (_ : Unit) (_ : State) => E = "java/lang/IndexOutOfBoundsException") (va_A [(h0, .inr (6, [.ref h1, .ref h2, .ref h3])), (h1, .inr (2, [.ref h4, .ref h5, .ref h6, .ref h7])), (h2, .inr (5, [.ref h1, .int 0])), (h3, .inr (4, [.ref h1, .ref h8, .int 0])), (h4, .inr (0, [.int 0, .ref z.1, .int 0])), (h5, .inr (0, [.int 0, .ref z.1, .int 0])), (h6, .inr (0, [.int 0, .ref z.1, .int 0])), (h7, .inr (0, [.int 0, .ref z.1, .int 0])), (h8, .inl (kc0, 8, .inl (fun _ => 0)))] sz)) 1 6 (va_A [(h0, .inr (6, [.ref h1, .ref h2, .ref h3])), (h1, .inr (2, [.ref h4, .ref h5, .ref h6, .ref h7])), (h2, .inr (5, [.ref h1, .int 0])), (h3, .inr (4, [.ref h1, .ref h8, .int 0])), (h4, .inr (0, [.int 0, .ref z.1, .int 0])), (h5, .inr (0, [.int 0, .ref z.1, .int 0])), (h6, .inr (0, [.int 0, .ref z.1, .int 0])), (h7, .inr (0, [.int 0, .ref z.1, .int 0])), (h8, .inl (kc0, 8, .inl (fun _ => 0)))] sz) := by
  refine vx_ofW (cc := cX6_findTest) (maxL := 5) (ret := (some .int)) (by decide) rfl ?_
  intro p e s m args below meth c s₁ B hml hnt hv
  obtain ⟨rfl, hsz, hP, hK, hD0, hX, hT⟩ := hv
  have hx := B.exec
  have hb := B.bytes
  have hr := B.returns
  have hts0 := atoms_spec (ws := .code yX6_findTest cX6_findTest 5 (some .int) :: wsL_law) B.pre
  have hts := xTail hts0
  have hown : s.vm.findClass RX6 = some m.cls := findClass_of_methodNamed B.named
  have hlocks := B.notSynchronized
  subst hsz
  have hD := hD0.self (sz := s.heap.size)
  generalize hAe : va_A [(h0, .inr (6, [.ref h1, .ref h2, .ref h3])), (h1, .inr (2, [.ref h4, .ref h5, .ref h6, .ref h7])), (h2, .inr (5, [.ref h1, .int 0])), (h3, .inr (4, [.ref h1, .ref h8, .int 0])), (h4, .inr (0, [.int 0, .ref z.1, .int 0])), (h5, .inr (0, [.int 0, .ref z.1, .int 0])), (h6, .inr (0, [.int 0, .ref z.1, .int 0])), (h7, .inr (0, [.int 0, .ref z.1, .int 0])), (h8, .inl (kc0, 8, .inl (fun _ => 0)))] s.heap.size = A at hD hX ⊢
  have hA : ∀ q : Nat, s.heap.size ≤ q → A q := fun q h => by rw [← hAe]; exact Or.inr h
  have hS : va_S A s.heap s.heap [] := va_S.rf
  have hl := lv_entry ([.ref h0, .int p0, .int p1]) (n := 5) (Nat.le_of_ble_eq_true rfl)
  rw [lg_entry_eq]
  generalize (lg_sl ([.ref h0, .int p0, .int p1]) ++ List.replicate (5 - (lg_sl ([.ref h0, .int p0, .int p1])).length) Slot.unset).toArray = ls at hl ⊢
  have hl : lv_has ls 5 [(0, .ref h0), (1, .int p0), (2, .int p1)] := hl
  refine lv_aload_n hx hb dX6_findTest_0 rfl (lv_at hl 0 rfl) ?_
  refine lv_iload_n hx hb dX6_findTest_1 rfl (lv_at hl 1 rfl) ?_
  have hF1 := va_free (wc := [(h0, .inr (6, [.ref h1, .ref h2, .ref h3])), (h1, .inr (2, [.ref h4, .ref h5, .ref h6, .ref h7])), (h2, .inr (5, [.ref h1, .int 0])), (h3, .inr (4, [.ref h1, .ref h8, .int 0])), (h4, .inr (0, [.int 0, .ref z.1, .int 0])), (h5, .inr (0, [.int 0, .ref z.1, .int 0])), (h6, .inr (0, [.int 0, .ref z.1, .int 0])), (h7, .inr (0, [.int 0, .ref z.1, .int 0])), (h8, .inl (kc0, 8, .inl (fun _ => 0)))]) hD hS hA [0, 1, 2, 3, 4, 5, 6, 7, 8] rfl
  refine vx_callq (SX := Unit) (vx_runV (As := [.int p0]) (rest := []) ⟨hx, hb, hml, hown, hts⟩ (k89_netAt l hl9 dC dI z h0 h1 h2 h3 h4 h5 h6 h7 h8 s.heap.size p0 kc0) (cwV 1 hts (gV q_346 q_347 q_348 q_69 q_345) rfl rfl rfl (by decide +kernel) ⟨Nat.le_of_ble_eq_true rfl, Nat.le_of_ble_eq_true rfl⟩) ⟨pc_blind, va_recv hK hP (ci := 6) (q0 := 0) rfl rfl, fun U hU hW => ⟨rfl, pc_mk hP hD hK hS hX hT [0, 1, 2, 3, 4, 5, 6, 7, 8] [0] rfl rfl rfl rfl hF1 hU hW⟩⟩ rfl rfl hl.1 rfl (lv_room (Nat.le_of_ble_eq_true rfl)) dX6_findTest_2 ⟨(Nat.le_of_ble_eq_true rfl), (Nat.le_of_ble_eq_true rfl)⟩) hS (fun q9 _ h9 => hF1 q9 h9) hF1 (fun q9 _ h9 => hF1 q9 h9) (fun E3 ce3 x3 v3 t3 H3 L3 ht3 hvm3 hw3 hB3 hz3 hk3 hS hc3 hn3 hf3 => ?_) (fun _ _ _ _ _ _ _ hw9 _ _ _ _ => hw9.elim)
  obtain ⟨hP, hD⟩ := pq_rest (wr := []) hP hD [0, 1, 2, 3, 4, 5, 6, 7, 8] [] rfl rfl (by decide) (by decide) hk3 hF1
  exact vx_out (fun x9 hx9 => (hnt x9 hx9).elim) hlocks hc3 hn3 hf3 (fun t9 ht9 hv9 => ⟨(), trivial, hB3, hS.F ht9⟩) hS.2.2 (by decide) (by decide)

set_option maxHeartbeats 4000000 in
set_option maxRecDepth 100000 in
theorem k255_findTest (l : Launch) (hl9 : l.stackTraces = false) (dC : Nat → ClassId) (dI : Nat → Nat → Nat) (z : XZ) (h0 h1 h2 h3 h4 h5 h6 h7 h8 h9 : Nat) (sz : Nat) (p0 p1 : Int32) (kc0 kc1 : ClassId) : Met l yL_findTest (.codeWith yL_findTest cL_findTest 5 (some .int) [(0, 10, 13, 23), (0, 10, 17, 21), (0, 10, 21, 64)] :: wsL_law) ({ frames := 9, cells := 1, slots := 6, locals := 145 }) (va_Pc [.ref h0, .int p0, .int p1, .ref h1] (PC (dC, dI) [(h0, .inr (6, [.ref h2, .ref h3, .ref h4])), (h1, .inl (kc0, 1, .inr (.inl (fun _ => 0)))), (h2, .inr (2, [.ref h5, .ref h6, .ref h7, .ref h8])), (h3, .inr (5, [.ref h2, .int 0])), (h4, .inr (4, [.ref h2, .ref h9, .int 0])), (h5, .inr (0, [.int 0, .ref z.1, .int 0])), (h6, .inr (0, [.int 0, .ref z.1, .int 0])), (h7, .inr (0, [.int 0, .ref z.1, .int 0])), (h8, .inr (0, [.int 0, .ref z.1, .int 0])), (h9, .inl (kc1, 8, .inl (fun _ => 0)))] [(kc0, .long), (kc1, .int)] sz z)) (va_Qi (fun (r : Int32) (_ : Unit) => r = 1) (fun (_ : Unit) (t : State) => PQ (dC, dI) [(h1, .inl (kc0, 1, .inr (.inl (fun _ => 0))))] [(kc0, .long)] (va_A [(h0, .inr (6, [.ref h2, .ref h3, .ref h4])), (h1, .inl (kc0, 1, .inr (.inl (fun _ => 0)))), (h2, .inr (2, [.ref h5, .ref h6, .ref h7, .ref h8])), (h3, .inr (5, [.ref h2, .int 0])), (h4, .inr (4, [.ref h2, .ref h9, .int 0])), (h5, .inr (0, [.int 0, .ref z.1, .int 0])), (h6, .inr (0, [.int 0, .ref z.1, .int 0])), (h7, .inr (0, [.int 0, .ref z.1, .int 0])), (h8, .inr (0, [.int 0, .ref z.1, .int 0])), (h9, .inl (kc1, 8, .inl (fun _ => 0)))] sz) t) (va_A [(h0, .inr (6, [.ref h2, .ref h3, .ref h4])), (h1, .inl (kc0, 1, .inr (.inl (fun _ => 0)))), (h2, .inr (2, [.ref h5, .ref h6, .ref h7, .ref h8])), (h3, .inr (5, [.ref h2, .int 0])), (h4, .inr (4, [.ref h2, .ref h9, .int 0])), (h5, .inr (0, [.int 0, .ref z.1, .int 0])), (h6, .inr (0, [.int 0, .ref z.1, .int 0])), (h7, .inr (0, [.int 0, .ref z.1, .int 0])), (h8, .inr (0, [.int 0, .ref z.1, .int 0])), (h9, .inl (kc1, 8, .inl (fun _ => 0)))] sz)) 1 6 (va_A [(h0, .inr (6, [.ref h2, .ref h3, .ref h4])), (h1, .inl (kc0, 1, .inr (.inl (fun _ => 0)))), (h2, .inr (2, [.ref h5, .ref h6, .ref h7, .ref h8])), (h3, .inr (5, [.ref h2, .int 0])), (h4, .inr (4, [.ref h2, .ref h9, .int 0])), (h5, .inr (0, [.int 0, .ref z.1, .int 0])), (h6, .inr (0, [.int 0, .ref z.1, .int 0])), (h7, .inr (0, [.int 0, .ref z.1, .int 0])), (h8, .inr (0, [.int 0, .ref z.1, .int 0])), (h9, .inl (kc1, 8, .inl (fun _ => 0)))] sz) := by
  refine va_MetW (cc := cL_findTest) (maxL := 5) (ret := (some .int)) (hh := [(0, 10, 13, 23), (0, 10, 17, 21), (0, 10, 21, 64)]) (by decide) rfl ?_
  intro p e s m args below meth c s₁ B hml hv
  obtain ⟨rfl, hsz, hP, hK, hD0, hX, hT⟩ := hv
  have hx := B.exec
  have hb := B.bytes
  have hr := B.returns
  have hts0 := atoms_spec (ws := .codeWith yL_findTest cL_findTest 5 (some .int) [(0, 10, 13, 23), (0, 10, 17, 21), (0, 10, 21, 64)] :: wsL_law) B.pre
  have htab := vx_table B (hts0 _ List.mem_cons_self)
  have hts := xTail hts0
  have hown : s.vm.findClass RL = some m.cls := findClass_of_methodNamed B.named
  have hlocks := B.notSynchronized
  subst hsz
  have hD := hD0.self (sz := s.heap.size)
  generalize hAe : va_A [(h0, .inr (6, [.ref h2, .ref h3, .ref h4])), (h1, .inl (kc0, 1, .inr (.inl (fun _ => 0)))), (h2, .inr (2, [.ref h5, .ref h6, .ref h7, .ref h8])), (h3, .inr (5, [.ref h2, .int 0])), (h4, .inr (4, [.ref h2, .ref h9, .int 0])), (h5, .inr (0, [.int 0, .ref z.1, .int 0])), (h6, .inr (0, [.int 0, .ref z.1, .int 0])), (h7, .inr (0, [.int 0, .ref z.1, .int 0])), (h8, .inr (0, [.int 0, .ref z.1, .int 0])), (h9, .inl (kc1, 8, .inl (fun _ => 0)))] s.heap.size = A at hD hX ⊢
  have hA : ∀ q : Nat, s.heap.size ≤ q → A q := fun q h => by rw [← hAe]; exact Or.inr h
  have hS : va_S A s.heap s.heap [] := va_S.rf
  have hl := lv_entry ([.ref h0, .int p0, .int p1, .ref h1]) (n := 5) (Nat.le_of_ble_eq_true rfl)
  rw [lg_entry_eq]
  generalize (lg_sl ([.ref h0, .int p0, .int p1, .ref h1]) ++ List.replicate (5 - (lg_sl ([.ref h0, .int p0, .int p1, .ref h1])).length) Slot.unset).toArray = ls at hl ⊢
  have hl : lv_has ls 5 [(0, .ref h0), (1, .int p0), (2, .int p1), (3, .ref h1)] := hl
  refine lv_aload_n hx hb dL_findTest_0 rfl (lv_at hl 3 rfl) ?_
  refine lv_iconst (v := 0) hx hb dL_findTest_1 (by decide) ?_
  refine lv_aload_n hx hb dL_findTest_2 rfl (lv_at hl 0 rfl) ?_
  refine lv_iload_n hx hb dL_findTest_3 rfl (lv_at hl 1 rfl) ?_
  refine lv_iload_n hx hb dL_findTest_4 rfl (lv_at hl 2 rfl) ?_
  have hF1 := va_free (wc := [(h0, .inr (6, [.ref h2, .ref h3, .ref h4])), (h2, .inr (2, [.ref h5, .ref h6, .ref h7, .ref h8])), (h3, .inr (5, [.ref h2, .int 0])), (h4, .inr (4, [.ref h2, .ref h9, .int 0])), (h5, .inr (0, [.int 0, .ref z.1, .int 0])), (h6, .inr (0, [.int 0, .ref z.1, .int 0])), (h7, .inr (0, [.int 0, .ref z.1, .int 0])), (h8, .inr (0, [.int 0, .ref z.1, .int 0])), (h9, .inl (kc1, 8, .inl (fun _ => 0)))]) hD hS hA [0, 2, 3, 4, 5, 6, 7, 8, 9] rfl
  refine vx_calli (SX := Unit) (vx_runV (As := [.int p0, .int p1]) (rest := [.int 0, .ref h1]) ⟨hx, hb, hml, hown, hts⟩ (k254_findTest l hl9 dC dI z h0 h2 h3 h4 h5 h6 h7 h8 h9 s.heap.size p0 p1 kc1) (cwV 2 hts (gV q_593 q_594 q_595 q_69 q_592) rfl rfl rfl (by decide +kernel) ⟨Nat.le_of_ble_eq_true rfl, Nat.le_of_ble_eq_true rfl⟩) ⟨pc_blind, va_recv hK hP (ci := 6) (q0 := 0) rfl rfl, fun U hU hW => ⟨rfl, pc_mk hP hD hK hS hX hT [0, 2, 3, 4, 5, 6, 7, 8, 9] [1] rfl rfl rfl rfl hF1 hU hW⟩⟩ rfl rfl hl.1 rfl (lv_room (Nat.le_of_ble_eq_true rfl)) dL_findTest_5 ⟨(Nat.le_of_ble_eq_true rfl), (Nat.le_of_ble_eq_true rfl)⟩) hS (fun q9 _ h9 => hF1 q9 h9) hF1 (fun q9 _ h9 => hF1 q9 h9) (fun E3 ce3 x3 v3 t3 H3 L3 ht3 hvm3 hw3 hB3 hz3 hk3 hS hc3 hn3 hf3 => ?_) (fun _ _ _ _ _ _ _ hw9 _ _ _ _ => hw9.elim)
  obtain ⟨hP, hD⟩ := pq_rest (wr := [(h1, .inl (kc0, 1, .inr (.inl (fun _ => 0))))]) hP hD [0, 2, 3, 4, 5, 6, 7, 8, 9] [1] rfl rfl (by decide) (by decide) hk3 hF1
  subst hB3
  refine vx_catch (own := RL) (name := "java/lang/IndexOutOfBoundsException") hown [] ⟨0, 10, 13, 23⟩ [⟨0, 10, 17, 21⟩, ⟨0, 10, 21, 64⟩] htab (fun z9 hz9 => absurd hz9 List.not_mem_nil) (by decide) (by decide) (hts _ q_387) (va_Nw.use rfl (hT.2.1.1 ("java/lang/IndexOutOfBoundsException", "java/lang/IndexOutOfBoundsException") (by decide))) hc3 hn3 hf3 ?_
  refine lv_astore (lv' := [(4, .ref x3), (0, .ref h0), (1, .int p0), (2, .int p1), (3, .ref h1)]) hx hb dL_findTest_13 hl (by decide) rfl (fun ls hl => ?_)
  refine lv_iconst (v := 1) hx hb dL_findTest_15 (by decide) ?_
  exact W.iret (v := 1) hx hb hr (fun t9 ht9 hW9 => ⟨⟨1, (), rfl, rfl, pq_mk (wc := [(h1, .inl (kc0, 1, .inr (.inl (fun _ => 0))))]) (tc := [(kc0, .long)]) hP hD hK [0] [0] rfl rfl rfl rfl ht9 hW9⟩, hS.F ht9⟩) hS.2.2 dL_findTest_16

set_option maxHeartbeats 4000000 in
set_option maxRecDepth 100000 in
theorem k256_findTest (l : Launch) (hl9 : l.stackTraces = false) (dC : Nat → ClassId) (dI : Nat → Nat → Nat) (z : XZ) (h0 h1 h2 h3 h4 : Nat) (sz : Nat) (p0 p1 : Int32) : Met l yX9_findTest (.code yX9_findTest cX9_findTest 4 (some .int) :: wsL_law) ({ frames := 3, cells := 0, slots := 0, locals := 65 }) (va_Pc [.ref h0, .int p0, .int p1] (PC (dC, dI) [(h0, .inr (8, [.int 0, .ref h1, .ref h2, .ref h3, .ref h4, .int 0])), (h1, .inr (0, [.int 0, .ref z.1, .int 0])), (h2, .inr (0, [.int 0, .ref z.1, .int 0])), (h3, .inr (0, [.int 0, .ref z.1, .int 0])), (h4, .inr (0, [.int 0, .ref z.1, .int 0]))] [] sz z)) (va_Qi (fun (r : Int32) (_ : Unit) => r = 0) (fun (_ : Unit) (t : State) => PQ (dC, dI) [(h0, .inr (8, [.int 1, .ref h1, .ref h2, .ref h3, .ref h4, .int 0])), (h1, .inr (0, [.int 0, .ref z.1, .int 0])), (h2, .inr (0, [.int 0, .ref z.1, .int 0])), (h3, .inr (0, [.int 0, .ref z.1, .int 0])), (h4, .inr (0, [.int 0, .ref z.1, .int 0]))] [] (va_A [(h0, .inr (8, [.int 0, .ref h1, .ref h2, .ref h3, .ref h4, .int 0])), (h1, .inr (0, [.int 0, .ref z.1, .int 0])), (h2, .inr (0, [.int 0, .ref z.1, .int 0])), (h3, .inr (0, [.int 0, .ref z.1, .int 0])), (h4, .inr (0, [.int 0, .ref z.1, .int 0]))] sz) t) (va_A [(h0, .inr (8, [.int 0, .ref h1, .ref h2, .ref h3, .ref h4, .int 0])), (h1, .inr (0, [.int 0, .ref z.1, .int 0])), (h2, .inr (0, [.int 0, .ref z.1, .int 0])), (h3, .inr (0, [.int 0, .ref z.1, .int 0])), (h4, .inr (0, [.int 0, .ref z.1, .int 0]))] sz)) 0 0 (va_A [(h0, .inr (8, [.int 0, .ref h1, .ref h2, .ref h3, .ref h4, .int 0])), (h1, .inr (0, [.int 0, .ref z.1, .int 0])), (h2, .inr (0, [.int 0, .ref z.1, .int 0])), (h3, .inr (0, [.int 0, .ref z.1, .int 0])), (h4, .inr (0, [.int 0, .ref z.1, .int 0]))] sz) := by
  refine Met.ofW (cc := cX9_findTest) (maxL := 4) (ret := (some .int)) (by decide) rfl ?_
  intro p e s m args below meth c s₁ B hml hv
  obtain ⟨rfl, hsz, hP, hK, hD0, hX, hT⟩ := hv
  have hx := B.exec
  have hb := B.bytes
  have hr := B.returns
  have hts0 := atoms_spec (ws := .code yX9_findTest cX9_findTest 4 (some .int) :: wsL_law) B.pre
  have hts := xTail hts0
  have hown : s.vm.findClass RX9 = some m.cls := findClass_of_methodNamed B.named
  have hlocks := B.notSynchronized
  subst hsz
  have hD := hD0.self (sz := s.heap.size)
  generalize hAe : va_A [(h0, .inr (8, [.int 0, .ref h1, .ref h2, .ref h3, .ref h4, .int 0])), (h1, .inr (0, [.int 0, .ref z.1, .int 0])), (h2, .inr (0, [.int 0, .ref z.1, .int 0])), (h3, .inr (0, [.int 0, .ref z.1, .int 0])), (h4, .inr (0, [.int 0, .ref z.1, .int 0]))] s.heap.size = A at hD hX ⊢
  have hA : ∀ q : Nat, s.heap.size ≤ q → A q := fun q h => by rw [← hAe]; exact Or.inr h
  have hS : va_S A s.heap s.heap [] := va_S.rf
  have hl := lv_entry ([.ref h0, .int p0, .int p1]) (n := 4) (Nat.le_of_ble_eq_true rfl)
  rw [lg_entry_eq]
  generalize (lg_sl ([.ref h0, .int p0, .int p1]) ++ List.replicate (4 - (lg_sl ([.ref h0, .int p0, .int p1])).length) Slot.unset).toArray = ls at hl ⊢
  have hl : lv_has ls 4 [(0, .ref h0), (1, .int p0), (2, .int p1)] := hl
  refine lv_aload_n hx hb dX9_findTest_0 rfl (lv_at hl 0 rfl) ?_
  refine lv_iconst (v := 0) hx hb dX9_findTest_1 (by decide) ?_
  refine va_put (D := (dC, dI)) (ci := 8) (v := .int 0) (ty := .int) (C := RX9) (T := TX9) (N := 6) hx hb hts in_X9 tyX9 tyX9_ok nmX9 hown hK hP hD hS 0 rfl rfl 0 (by decide) (hts _ q_230) (fun _ h9 => h9) rfl (by decide +kernel) rfl rfl (Nat.le_of_ble_eq_true rfl) dX9_findTest_2 (fun H1 _ hP hD hS => ?_)
  have hP : va_P (dC, dI) xCl [(h0, .inr (8, [.int 0, .ref h1, .ref h2, .ref h3, .ref h4, .int 0])), (h1, .inr (0, [.int 0, .ref z.1, .int 0])), (h2, .inr (0, [.int 0, .ref z.1, .int 0])), (h3, .inr (0, [.int 0, .ref z.1, .int 0])), (h4, .inr (0, [.int 0, .ref z.1, .int 0]))] H1 := hP
  have hD : va_D A [(h0, .inr (8, [.int 0, .ref h1, .ref h2, .ref h3, .ref h4, .int 0])), (h1, .inr (0, [.int 0, .ref z.1, .int 0])), (h2, .inr (0, [.int 0, .ref z.1, .int 0])), (h3, .inr (0, [.int 0, .ref z.1, .int 0])), (h4, .inr (0, [.int 0, .ref z.1, .int 0]))] := hD
  refine lv_aload_n hx hb dX9_findTest_5 rfl (lv_at hl 0 rfl) ?_
  refine lv_iload_n hx hb dX9_findTest_6 rfl (lv_at hl 1 rfl) ?_
  refine lv_iload_n hx hb dX9_findTest_7 rfl (lv_at hl 2 rfl) ?_
  have hF2 := va_free (wc := [(h0, .inr (8, [.int 0, .ref h1, .ref h2, .ref h3, .ref h4, .int 0])), (h1, .inr (0, [.int 0, .ref z.1, .int 0])), (h2, .inr (0, [.int 0, .ref z.1, .int 0])), (h3, .inr (0, [.int 0, .ref z.1, .int 0])), (h4, .inr (0, [.int 0, .ref z.1, .int 0]))]) hD hS hA [0, 1, 2, 3, 4] rfl
  refine va_calli (va_runV (As := [.int p0, .int p1]) (rest := []) ⟨hx, hb, hml, hown, hts⟩ (k252_cannot l hl9 dC dI z h0 h1 h2 h3 h4 H1.size p0 p1) (cwV 2 hts (gV q_585 q_586 q_587 q_255 q_584) rfl rfl rfl (by decide +kernel) ⟨Nat.le_of_ble_eq_true rfl, Nat.le_of_ble_eq_true rfl⟩) ⟨pc_blind, va_recv hK hP (ci := 8) (q0 := 0) rfl rfl, fun U hU hW => ⟨rfl, pc_mk hP hD hK hS hX hT [0, 1, 2, 3, 4] [] rfl rfl rfl rfl hF2 hU hW⟩⟩ rfl rfl hl.1 rfl (lv_room (Nat.le_of_ble_eq_true rfl)) dX9_findTest_8 ⟨(Nat.le_of_ble_eq_true rfl), (Nat.le_of_ble_eq_true rfl)⟩) hS (fun q9 _ h9 => hF2 q9 h9) hF2 (fun r5 u4 t4 H4 L4 ht4 hvm4 hw4 hB4 hz4 hk4 hS => ?_)
  obtain ⟨hP, hD, hK⟩ := pq_join (wr := []) (tr := []) (wz := [(h0, .inr (8, [.int 1, .ref h1, .ref h2, .ref h3, .ref h4, .int 0])), (h1, .inr (0, [.int 0, .ref z.1, .int 0])), (h2, .inr (0, [.int 0, .ref z.1, .int 0])), (h3, .inr (0, [.int 0, .ref z.1, .int 0])), (h4, .inr (0, [.int 0, .ref z.1, .int 0]))]) (tz := []) hP hD hK [0, 1, 2, 3, 4] [] [] rfl rfl (by decide) (by decide) rfl hk4 hF2 hB4 ht4 hvm4 rfl rfl
  refine W.eq (g2 := F0 m 11 ls [.int 1]) (by rw [hw4]) ?_
  refine lv_if_eq (tgt := 16) hx hb dX9_findTest_11 (by decide) (fun cz => absurd cz (by decide)) (fun _ => ?_)
  refine lv_iconst (v := 0) hx hb dX9_findTest_14 (by decide) ?_
  exact W.iret (v := 0) hx hb hr (fun t9 ht9 hW9 => ⟨⟨0, (), rfl, rfl, pq_mk (wc := [(h0, .inr (8, [.int 1, .ref h1, .ref h2, .ref h3, .ref h4, .int 0])), (h1, .inr (0, [.int 0, .ref z.1, .int 0])), (h2, .inr (0, [.int 0, .ref z.1, .int 0])), (h3, .inr (0, [.int 0, .ref z.1, .int 0])), (h4, .inr (0, [.int 0, .ref z.1, .int 0]))]) (tc := []) hP hD hK [0, 1, 2, 3, 4] [] rfl rfl rfl rfl ht9 hW9⟩, hS.F ht9⟩) hS.2.2 dX9_findTest_15

set_option maxHeartbeats 4000000 in
set_option maxRecDepth 100000 in
theorem k257_rowCount (l : Launch) (hl9 : l.stackTraces = false) (dC : Nat → ClassId) (dI : Nat → Nat → Nat) (z : XZ) (h0 h1 h2 h3 h4 h5 h6 : Nat) (sz : Nat) (kc0 : ClassId) : Met l yX4_rowCount (.code yX4_rowCount cX4_rowCount 1 (some .int) :: wsL_law) ({ frames := 1, cells := 0, slots := 0, locals := 20 }) (va_Pc [.ref h0] (PC (dC, dI) [(h0, .inr (4, [.ref h1, .ref h2, .int 0])), (h1, .inr (2, [.ref h3, .ref h4, .ref h5, .ref h6])), (h2, .inl (kc0, 8, .inl (fun _ => 0))), (h3, .inr (0, [.int 0, .ref z.1, .int 0])), (h4, .inr (0, [.int 0, .ref z.1, .int 0])), (h5, .inr (0, [.int 0, .ref z.1, .int 0])), (h6, .inr (0, [.int 0, .ref z.1, .int 0]))] [(kc0, .int)] sz z)) (va_Qi (fun (r : Int32) (_ : Unit) => r = 1) (fun (_ : Unit) (t : State) => PQ (dC, dI) [(h0, .inr (4, [.ref h1, .ref h2, .int 0])), (h1, .inr (2, [.ref h3, .ref h4, .ref h5, .ref h6])), (h2, .inl (kc0, 8, .inl (fun _ => 0))), (h3, .inr (0, [.int 0, .ref z.1, .int 0])), (h4, .inr (0, [.int 0, .ref z.1, .int 0])), (h5, .inr (0, [.int 0, .ref z.1, .int 0])), (h6, .inr (0, [.int 0, .ref z.1, .int 0]))] [(kc0, .int)] (va_A [(h0, .inr (4, [.ref h1, .ref h2, .int 0])), (h1, .inr (2, [.ref h3, .ref h4, .ref h5, .ref h6])), (h2, .inl (kc0, 8, .inl (fun _ => 0))), (h3, .inr (0, [.int 0, .ref z.1, .int 0])), (h4, .inr (0, [.int 0, .ref z.1, .int 0])), (h5, .inr (0, [.int 0, .ref z.1, .int 0])), (h6, .inr (0, [.int 0, .ref z.1, .int 0]))] sz) t) (va_A [(h0, .inr (4, [.ref h1, .ref h2, .int 0])), (h1, .inr (2, [.ref h3, .ref h4, .ref h5, .ref h6])), (h2, .inl (kc0, 8, .inl (fun _ => 0))), (h3, .inr (0, [.int 0, .ref z.1, .int 0])), (h4, .inr (0, [.int 0, .ref z.1, .int 0])), (h5, .inr (0, [.int 0, .ref z.1, .int 0])), (h6, .inr (0, [.int 0, .ref z.1, .int 0]))] sz)) 0 0 (va_A [(h0, .inr (4, [.ref h1, .ref h2, .int 0])), (h1, .inr (2, [.ref h3, .ref h4, .ref h5, .ref h6])), (h2, .inl (kc0, 8, .inl (fun _ => 0))), (h3, .inr (0, [.int 0, .ref z.1, .int 0])), (h4, .inr (0, [.int 0, .ref z.1, .int 0])), (h5, .inr (0, [.int 0, .ref z.1, .int 0])), (h6, .inr (0, [.int 0, .ref z.1, .int 0]))] sz) := by
  refine Met.ofW (cc := cX4_rowCount) (maxL := 1) (ret := (some .int)) (by decide) rfl ?_
  intro p e s m args below meth c s₁ B hml hv
  obtain ⟨rfl, hsz, hP, hK, hD0, hX, hT⟩ := hv
  have hx := B.exec
  have hb := B.bytes
  have hr := B.returns
  have hts0 := atoms_spec (ws := .code yX4_rowCount cX4_rowCount 1 (some .int) :: wsL_law) B.pre
  have hts := xTail hts0
  have hown : s.vm.findClass RX4 = some m.cls := findClass_of_methodNamed B.named
  have hlocks := B.notSynchronized
  subst hsz
  have hD := hD0.self (sz := s.heap.size)
  generalize hAe : va_A [(h0, .inr (4, [.ref h1, .ref h2, .int 0])), (h1, .inr (2, [.ref h3, .ref h4, .ref h5, .ref h6])), (h2, .inl (kc0, 8, .inl (fun _ => 0))), (h3, .inr (0, [.int 0, .ref z.1, .int 0])), (h4, .inr (0, [.int 0, .ref z.1, .int 0])), (h5, .inr (0, [.int 0, .ref z.1, .int 0])), (h6, .inr (0, [.int 0, .ref z.1, .int 0]))] s.heap.size = A at hD hX ⊢
  have hA : ∀ q : Nat, s.heap.size ≤ q → A q := fun q h => by rw [← hAe]; exact Or.inr h
  have hS : va_S A s.heap s.heap [] := va_S.rf
  have hl := lv_entry ([.ref h0]) (n := 1) (Nat.le_of_ble_eq_true rfl)
  rw [lg_entry_eq]
  generalize (lg_sl ([.ref h0]) ++ List.replicate (1 - (lg_sl ([.ref h0])).length) Slot.unset).toArray = ls at hl ⊢
  have hl : lv_has ls 1 [(0, .ref h0)] := hl
  refine lv_iconst (v := 1) hx hb dX4_rowCount_0 (by decide) ?_
  refine lv_aload_n hx hb dX4_rowCount_1 rfl (lv_at hl 0 rfl) ?_
  refine va_get (D := (dC, dI)) (ci := 4) (v := .ref h1) (C := RX4) (T := TX4) (N := 3) hx hb hts in_X4 hown hK hP 0 rfl rfl 0 (by decide) (hts _ q_47) (fun _ h9 => h9) rfl dX4_rowCount_2 ?_
  refine va_get (D := (dC, dI)) (ci := 2) (v := .ref h4) (C := RX0) (T := TX0) (N := 4) hx hb hts in_X0 hown hK hP 1 rfl rfl 1 (by decide) (hts _ q_605) (fun _ h9 => h9) rfl dX4_rowCount_5 ?_
  have hF1 := va_free (wc := [(h4, .inr (0, [.int 0, .ref z.1, .int 0]))]) hD hS hA [4] rfl
  refine va_calli (va_runV (As := []) (rest := [.int 1]) ⟨hx, hb, hml, hown, hts⟩ (k9_size l hl9 dC dI z h4 s.heap.size 0 0) (cwV 0 hts (gV q_606 q_63 q_64 q_9 q_61) rfl rfl rfl (by decide +kernel) ⟨Nat.le_of_ble_eq_true rfl, Nat.le_of_ble_eq_true rfl⟩) ⟨pc_blind, va_recv hK hP (ci := 0) (q0 := 4) rfl rfl, fun U hU hW => ⟨rfl, pc_mk hP hD hK hS hX hT [4] [] rfl rfl rfl rfl hF1 hU hW⟩⟩ rfl rfl hl.1 rfl (lv_room (Nat.le_of_ble_eq_true rfl)) dX4_rowCount_8 ⟨(Nat.le_of_ble_eq_true rfl), (Nat.le_of_ble_eq_true rfl)⟩) hS (fun q9 _ h9 => hF1 q9 h9) hF1 (fun r4 u3 t3 H3 L3 ht3 hvm3 hw3 hB3 hz3 hk3 hS => ?_)
  obtain ⟨hP, hD, hK⟩ := pq_join (wr := [(h0, .inr (4, [.ref h1, .ref h2, .int 0])), (h1, .inr (2, [.ref h3, .ref h4, .ref h5, .ref h6])), (h2, .inl (kc0, 8, .inl (fun _ => 0))), (h3, .inr (0, [.int 0, .ref z.1, .int 0])), (h5, .inr (0, [.int 0, .ref z.1, .int 0])), (h6, .inr (0, [.int 0, .ref z.1, .int 0]))]) (tr := [(kc0, .int)]) (wz := [(h0, .inr (4, [.ref h1, .ref h2, .int 0])), (h1, .inr (2, [.ref h3, .ref h4, .ref h5, .ref h6])), (h2, .inl (kc0, 8, .inl (fun _ => 0))), (h3, .inr (0, [.int 0, .ref z.1, .int 0])), (h5, .inr (0, [.int 0, .ref z.1, .int 0])), (h6, .inr (0, [.int 0, .ref z.1, .int 0])), (h4, .inr (0, [.int 0, .ref z.1, .int 0]))]) (tz := [(kc0, .int)]) hP hD hK [4] [0, 1, 2, 3, 5, 6] [0] rfl rfl (by decide) (by decide) rfl hk3 hF1 hB3 ht3 hvm3 rfl rfl
  refine W.eq (g2 := F0 m 11 ls [.int 0, .int 1]) (by rw [hw3]) ?_
  refine lv_ishl hx hb dX4_rowCount_11 ?_
  refine lv_topi (fun y5 ey5 => ?_)
  obtain rfl : y5 = 1 := ey5.trans (by decide)
  exact W.iret (v := 1) hx hb hr (fun t9 ht9 hW9 => ⟨⟨1, (), rfl, rfl, pq_mk (wc := [(h0, .inr (4, [.ref h1, .ref h2, .int 0])), (h1, .inr (2, [.ref h3, .ref h4, .ref h5, .ref h6])), (h2, .inl (kc0, 8, .inl (fun _ => 0))), (h3, .inr (0, [.int 0, .ref z.1, .int 0])), (h4, .inr (0, [.int 0, .ref z.1, .int 0])), (h5, .inr (0, [.int 0, .ref z.1, .int 0])), (h6, .inr (0, [.int 0, .ref z.1, .int 0]))]) (tc := [(kc0, .int)]) hP hD hK [0, 1, 2, 3, 6, 4, 5] [0] rfl rfl rfl rfl ht9 hW9⟩, hS.F ht9⟩) hS.2.2 dX4_rowCount_12

set_option maxHeartbeats 4000000 in
set_option maxRecDepth 100000 in
theorem k258_shown (l : Launch) (hl9 : l.stackTraces = false) (dC : Nat → ClassId) (dI : Nat → Nat → Nat) (z : XZ) (h0 h1 h2 h3 h4 h5 h6 h7 h8 : Nat) (sz : Nat) (kc0 : ClassId) : Met l yX6_shown (.code yX6_shown cX6_shown 4 (some .int) :: wsL_law) ({ frames := 1, cells := 0, slots := 0, locals := 20 }) (va_Pc [.ref h0] (PC (dC, dI) [(h0, .inr (6, [.ref h1, .ref h2, .ref h3])), (h1, .inr (2, [.ref h4, .ref h5, .ref h6, .ref h7])), (h2, .inr (5, [.ref h1, .int 0])), (h3, .inr (4, [.ref h1, .ref h8, .int 0])), (h4, .inr (0, [.int 0, .ref z.1, .int 0])), (h5, .inr (0, [.int 0, .ref z.1, .int 0])), (h6, .inr (0, [.int 0, .ref z.1, .int 0])), (h7, .inr (0, [.int 0, .ref z.1, .int 0])), (h8, .inl (kc0, 8, .inl (fun _ => 0)))] [(kc0, .int)] sz z)) (va_Qi (fun (r : Int32) (_ : Unit) => r = 0) (fun (_ : Unit) (t : State) => PQ (dC, dI) [(h0, .inr (6, [.ref h1, .ref h2, .ref h3])), (h1, .inr (2, [.ref h4, .ref h5, .ref h6, .ref h7])), (h2, .inr (5, [.ref h1, .int 0])), (h3, .inr (4, [.ref h1, .ref h8, .int 0])), (h4, .inr (0, [.int 0, .ref z.1, .int 0])), (h5, .inr (0, [.int 0, .ref z.1, .int 0])), (h6, .inr (0, [.int 0, .ref z.1, .int 0])), (h7, .inr (0, [.int 0, .ref z.1, .int 0])), (h8, .inl (kc0, 8, .inl (fun _ => 0)))] [(kc0, .int)] (va_A [(h0, .inr (6, [.ref h1, .ref h2, .ref h3])), (h1, .inr (2, [.ref h4, .ref h5, .ref h6, .ref h7])), (h2, .inr (5, [.ref h1, .int 0])), (h3, .inr (4, [.ref h1, .ref h8, .int 0])), (h4, .inr (0, [.int 0, .ref z.1, .int 0])), (h5, .inr (0, [.int 0, .ref z.1, .int 0])), (h6, .inr (0, [.int 0, .ref z.1, .int 0])), (h7, .inr (0, [.int 0, .ref z.1, .int 0])), (h8, .inl (kc0, 8, .inl (fun _ => 0)))] sz) t) (va_A [(h0, .inr (6, [.ref h1, .ref h2, .ref h3])), (h1, .inr (2, [.ref h4, .ref h5, .ref h6, .ref h7])), (h2, .inr (5, [.ref h1, .int 0])), (h3, .inr (4, [.ref h1, .ref h8, .int 0])), (h4, .inr (0, [.int 0, .ref z.1, .int 0])), (h5, .inr (0, [.int 0, .ref z.1, .int 0])), (h6, .inr (0, [.int 0, .ref z.1, .int 0])), (h7, .inr (0, [.int 0, .ref z.1, .int 0])), (h8, .inl (kc0, 8, .inl (fun _ => 0)))] sz)) 0 0 (va_A [(h0, .inr (6, [.ref h1, .ref h2, .ref h3])), (h1, .inr (2, [.ref h4, .ref h5, .ref h6, .ref h7])), (h2, .inr (5, [.ref h1, .int 0])), (h3, .inr (4, [.ref h1, .ref h8, .int 0])), (h4, .inr (0, [.int 0, .ref z.1, .int 0])), (h5, .inr (0, [.int 0, .ref z.1, .int 0])), (h6, .inr (0, [.int 0, .ref z.1, .int 0])), (h7, .inr (0, [.int 0, .ref z.1, .int 0])), (h8, .inl (kc0, 8, .inl (fun _ => 0)))] sz) := by
  refine Met.ofW (cc := cX6_shown) (maxL := 4) (ret := (some .int)) (by decide) rfl ?_
  intro p e s m args below meth c s₁ B hml hv
  obtain ⟨rfl, hsz, hP, hK, hD0, hX, hT⟩ := hv
  have hx := B.exec
  have hb := B.bytes
  have hr := B.returns
  have hts0 := atoms_spec (ws := .code yX6_shown cX6_shown 4 (some .int) :: wsL_law) B.pre
  have hts := xTail hts0
  have hown : s.vm.findClass RX6 = some m.cls := findClass_of_methodNamed B.named
  have hlocks := B.notSynchronized
  subst hsz
  have hD := hD0.self (sz := s.heap.size)
  generalize hAe : va_A [(h0, .inr (6, [.ref h1, .ref h2, .ref h3])), (h1, .inr (2, [.ref h4, .ref h5, .ref h6, .ref h7])), (h2, .inr (5, [.ref h1, .int 0])), (h3, .inr (4, [.ref h1, .ref h8, .int 0])), (h4, .inr (0, [.int 0, .ref z.1, .int 0])), (h5, .inr (0, [.int 0, .ref z.1, .int 0])), (h6, .inr (0, [.int 0, .ref z.1, .int 0])), (h7, .inr (0, [.int 0, .ref z.1, .int 0])), (h8, .inl (kc0, 8, .inl (fun _ => 0)))] s.heap.size = A at hD hX ⊢
  have hA : ∀ q : Nat, s.heap.size ≤ q → A q := fun q h => by rw [← hAe]; exact Or.inr h
  have hS : va_S A s.heap s.heap [] := va_S.rf
  have hl := lv_entry ([.ref h0]) (n := 4) (Nat.le_of_ble_eq_true rfl)
  rw [lg_entry_eq]
  generalize (lg_sl ([.ref h0]) ++ List.replicate (4 - (lg_sl ([.ref h0])).length) Slot.unset).toArray = ls at hl ⊢
  have hl : lv_has ls 4 [(0, .ref h0)] := hl
  refine lv_iconst (v := 0) hx hb dX6_shown_0 (by decide) ?_
  refine lv_istore_n (lv' := [(1, .int 0), (0, .ref h0)]) hx hb dX6_shown_1 rfl hl (by decide) rfl (fun ls hl => ?_)
  refine lv_iconst (v := 0) hx hb dX6_shown_2 (by decide) ?_
  refine lv_istore_n (lv' := [(2, .int 0), (1, .int 0), (0, .ref h0)]) hx hb dX6_shown_3 rfl hl (by decide) rfl (fun ls hl => ?_)
  refine lv_iload_n hx hb dX6_shown_4 rfl (lv_at hl 0 rfl) ?_
  refine lv_aload_n hx hb dX6_shown_5 rfl (lv_at hl 2 rfl) ?_
  refine va_get (D := (dC, dI)) (ci := 6) (v := .ref h1) (C := RX6) (T := TX6) (N := 3) hx hb hts in_X6 hown hK hP 0 rfl rfl 0 (by decide) (hts _ q_31) (fun _ h9 => h9) rfl dX6_shown_6 ?_
  refine va_get (D := (dC, dI)) (ci := 2) (v := .ref h4) (C := RX0) (T := TX0) (N := 4) hx hb hts in_X0 hown hK hP 1 rfl rfl 0 (by decide) (hts _ q_70) (fun _ h9 => h9) rfl dX6_shown_9 ?_
  have hF1 := va_free (wc := [(h4, .inr (0, [.int 0, .ref z.1, .int 0]))]) hD hS hA [4] rfl
  refine va_calli (va_runV (As := []) (rest := [.int 0]) ⟨hx, hb, hml, hown, hts⟩ (k9_size l hl9 dC dI z h4 s.heap.size 0 0) (cwV 0 hts (gV q_62 q_63 q_64 q_9 q_61) rfl rfl rfl (by decide +kernel) ⟨Nat.le_of_ble_eq_true rfl, Nat.le_of_ble_eq_true rfl⟩) ⟨pc_blind, va_recv hK hP (ci := 0) (q0 := 4) rfl rfl, fun U hU hW => ⟨rfl, pc_mk hP hD hK hS hX hT [4] [] rfl rfl rfl rfl hF1 hU hW⟩⟩ rfl rfl hl.1 rfl (lv_room (Nat.le_of_ble_eq_true rfl)) dX6_shown_12 ⟨(Nat.le_of_ble_eq_true rfl), (Nat.le_of_ble_eq_true rfl)⟩) hS (fun q9 _ h9 => hF1 q9 h9) hF1 (fun r4 u3 t3 H3 L3 ht3 hvm3 hw3 hB3 hz3 hk3 hS => ?_)
  obtain ⟨hP, hD, hK⟩ := pq_join (wr := [(h0, .inr (6, [.ref h1, .ref h2, .ref h3])), (h1, .inr (2, [.ref h4, .ref h5, .ref h6, .ref h7])), (h2, .inr (5, [.ref h1, .int 0])), (h3, .inr (4, [.ref h1, .ref h8, .int 0])), (h5, .inr (0, [.int 0, .ref z.1, .int 0])), (h6, .inr (0, [.int 0, .ref z.1, .int 0])), (h7, .inr (0, [.int 0, .ref z.1, .int 0])), (h8, .inl (kc0, 8, .inl (fun _ => 0)))]) (tr := [(kc0, .int)]) (wz := [(h0, .inr (6, [.ref h1, .ref h2, .ref h3])), (h1, .inr (2, [.ref h4, .ref h5, .ref h6, .ref h7])), (h2, .inr (5, [.ref h1, .int 0])), (h3, .inr (4, [.ref h1, .ref h8, .int 0])), (h5, .inr (0, [.int 0, .ref z.1, .int 0])), (h6, .inr (0, [.int 0, .ref z.1, .int 0])), (h7, .inr (0, [.int 0, .ref z.1, .int 0])), (h8, .inl (kc0, 8, .inl (fun _ => 0))), (h4, .inr (0, [.int 0, .ref z.1, .int 0]))]) (tz := [(kc0, .int)]) hP hD hK [4] [0, 1, 2, 3, 5, 6, 7, 8] [0] rfl rfl (by decide) (by decide) rfl hk3 hF1 hB3 ht3 hvm3 rfl rfl
  refine W.eq (g2 := F0 m 15 ls [.int 0, .int 0]) (by rw [hw3]) ?_
  refine lv_icmp_ge (tgt := 81) hx hb dX6_shown_15 (by decide) (fun _ => ?_) (fun cz => absurd (by decide) cz)
  refine lv_iload_n hx hb dX6_shown_81 rfl (lv_at hl 1 rfl) ?_
  exact W.iret (v := 0) hx hb hr (fun t9 ht9 hW9 => ⟨⟨0, (), rfl, rfl, pq_mk (wc := [(h0, .inr (6, [.ref h1, .ref h2, .ref h3])), (h1, .inr (2, [.ref h4, .ref h5, .ref h6, .ref h7])), (h2, .inr (5, [.ref h1, .int 0])), (h3, .inr (4, [.ref h1, .ref h8, .int 0])), (h4, .inr (0, [.int 0, .ref z.1, .int 0])), (h5, .inr (0, [.int 0, .ref z.1, .int 0])), (h6, .inr (0, [.int 0, .ref z.1, .int 0])), (h7, .inr (0, [.int 0, .ref z.1, .int 0])), (h8, .inl (kc0, 8, .inl (fun _ => 0)))]) (tc := [(kc0, .int)]) hP hD hK [0, 1, 2, 3, 8, 4, 5, 6, 7] [0] rfl rfl rfl rfl ht9 hW9⟩, hS.F ht9⟩) hS.2.2 dX6_shown_82

set_option maxHeartbeats 4000000 in
set_option maxRecDepth 100000 in
theorem k259_shown (l : Launch) (hl9 : l.stackTraces = false) (dC : Nat → ClassId) (dI : Nat → Nat → Nat) (z : XZ) (h0 h1 h2 h3 h4 : Nat) (sz : Nat) : Met l yX9_shown (.code yX9_shown cX9_shown 7 (some .int) :: wsL_law) ({ frames := 1, cells := 0, slots := 0, locals := 20 }) (va_Pc [.ref h0] (PC (dC, dI) [(h0, .inr (8, [.int 0, .ref h1, .ref h2, .ref h3, .ref h4, .int 0])), (h1, .inr (0, [.int 0, .ref z.1, .int 0])), (h2, .inr (0, [.int 0, .ref z.1, .int 0])), (h3, .inr (0, [.int 0, .ref z.1, .int 0])), (h4, .inr (0, [.int 0, .ref z.1, .int 0]))] [] sz z)) (va_Qi (fun (r : Int32) (_ : Unit) => r = 0) (fun (_ : Unit) (t : State) => PQ (dC, dI) [(h0, .inr (8, [.int 0, .ref h1, .ref h2, .ref h3, .ref h4, .int 0])), (h1, .inr (0, [.int 0, .ref z.1, .int 0])), (h2, .inr (0, [.int 0, .ref z.1, .int 0])), (h3, .inr (0, [.int 0, .ref z.1, .int 0])), (h4, .inr (0, [.int 0, .ref z.1, .int 0]))] [] (va_A [(h0, .inr (8, [.int 0, .ref h1, .ref h2, .ref h3, .ref h4, .int 0])), (h1, .inr (0, [.int 0, .ref z.1, .int 0])), (h2, .inr (0, [.int 0, .ref z.1, .int 0])), (h3, .inr (0, [.int 0, .ref z.1, .int 0])), (h4, .inr (0, [.int 0, .ref z.1, .int 0]))] sz) t) (va_A [(h0, .inr (8, [.int 0, .ref h1, .ref h2, .ref h3, .ref h4, .int 0])), (h1, .inr (0, [.int 0, .ref z.1, .int 0])), (h2, .inr (0, [.int 0, .ref z.1, .int 0])), (h3, .inr (0, [.int 0, .ref z.1, .int 0])), (h4, .inr (0, [.int 0, .ref z.1, .int 0]))] sz)) 0 0 (va_A [(h0, .inr (8, [.int 0, .ref h1, .ref h2, .ref h3, .ref h4, .int 0])), (h1, .inr (0, [.int 0, .ref z.1, .int 0])), (h2, .inr (0, [.int 0, .ref z.1, .int 0])), (h3, .inr (0, [.int 0, .ref z.1, .int 0])), (h4, .inr (0, [.int 0, .ref z.1, .int 0]))] sz) := by
  refine Met.ofW (cc := cX9_shown) (maxL := 7) (ret := (some .int)) (by decide) rfl ?_
  intro p e s m args below meth c s₁ B hml hv
  obtain ⟨rfl, hsz, hP, hK, hD0, hX, hT⟩ := hv
  have hx := B.exec
  have hb := B.bytes
  have hr := B.returns
  have hts0 := atoms_spec (ws := .code yX9_shown cX9_shown 7 (some .int) :: wsL_law) B.pre
  have hts := xTail hts0
  have hown : s.vm.findClass RX9 = some m.cls := findClass_of_methodNamed B.named
  have hlocks := B.notSynchronized
  subst hsz
  have hD := hD0.self (sz := s.heap.size)
  generalize hAe : va_A [(h0, .inr (8, [.int 0, .ref h1, .ref h2, .ref h3, .ref h4, .int 0])), (h1, .inr (0, [.int 0, .ref z.1, .int 0])), (h2, .inr (0, [.int 0, .ref z.1, .int 0])), (h3, .inr (0, [.int 0, .ref z.1, .int 0])), (h4, .inr (0, [.int 0, .ref z.1, .int 0]))] s.heap.size = A at hD hX ⊢
  have hA : ∀ q : Nat, s.heap.size ≤ q → A q := fun q h => by rw [← hAe]; exact Or.inr h
  have hS : va_S A s.heap s.heap [] := va_S.rf
  have hl := lv_entry ([.ref h0]) (n := 7) (Nat.le_of_ble_eq_true rfl)
  rw [lg_entry_eq]
  generalize (lg_sl ([.ref h0]) ++ List.replicate (7 - (lg_sl ([.ref h0])).length) Slot.unset).toArray = ls at hl ⊢
  have hl : lv_has ls 7 [(0, .ref h0)] := hl
  refine lv_aload_n hx hb dX9_shown_0 rfl (lv_at hl 0 rfl) ?_
  refine lv_iconst (v := 0) hx hb dX9_shown_1 (by decide) ?_
  refine va_put (D := (dC, dI)) (ci := 8) (v := .int 0) (ty := .int) (C := RX9) (T := TX9) (N := 6) hx hb hts in_X9 tyX9 tyX9_ok nmX9 hown hK hP hD hS 0 rfl rfl 0 (by decide) (hts _ q_230) (fun _ h9 => h9) rfl (by decide +kernel) rfl rfl (Nat.le_of_ble_eq_true rfl) dX9_shown_2 (fun H1 _ hP hD hS => ?_)
  have hP : va_P (dC, dI) xCl [(h0, .inr (8, [.int 0, .ref h1, .ref h2, .ref h3, .ref h4, .int 0])), (h1, .inr (0, [.int 0, .ref z.1, .int 0])), (h2, .inr (0, [.int 0, .ref z.1, .int 0])), (h3, .inr (0, [.int 0, .ref z.1, .int 0])), (h4, .inr (0, [.int 0, .ref z.1, .int 0]))] H1 := hP
  have hD : va_D A [(h0, .inr (8, [.int 0, .ref h1, .ref h2, .ref h3, .ref h4, .int 0])), (h1, .inr (0, [.int 0, .ref z.1, .int 0])), (h2, .inr (0, [.int 0, .ref z.1, .int 0])), (h3, .inr (0, [.int 0, .ref z.1, .int 0])), (h4, .inr (0, [.int 0, .ref z.1, .int 0]))] := hD
  refine lv_iconst (v := 0) hx hb dX9_shown_5 (by decide) ?_
  refine lv_istore_n (lv' := [(1, .int 0), (0, .ref h0)]) hx hb dX9_shown_6 rfl hl (by decide) rfl (fun ls hl => ?_)
  refine lv_iconst (v := 0) hx hb dX9_shown_7 (by decide) ?_
  refine lv_istore_n (lv' := [(2, .int 0), (1, .int 0), (0, .ref h0)]) hx hb dX9_shown_8 rfl hl (by decide) rfl (fun ls hl => ?_)
  refine lv_iload_n hx hb dX9_shown_9 rfl (lv_at hl 0 rfl) ?_
  refine lv_aload_n hx hb dX9_shown_10 rfl (lv_at hl 2 rfl) ?_
  refine va_get (D := (dC, dI)) (ci := 8) (v := .ref h1) (C := RX9) (T := TX9) (N := 6) hx hb hts in_X9 hown hK hP 0 rfl rfl 1 (by decide) (hts _ q_55) (fun _ h9 => h9) rfl dX9_shown_11 ?_
  have hF2 := va_free (wc := [(h1, .inr (0, [.int 0, .ref z.1, .int 0]))]) hD hS hA [1] rfl
  refine va_calli (va_runV (As := []) (rest := [.int 0]) ⟨hx, hb, hml, hown, hts⟩ (k9_size l hl9 dC dI z h1 H1.size 0 0) (cwV 0 hts (gV q_260 q_63 q_64 q_9 q_61) rfl rfl rfl (by decide +kernel) ⟨Nat.le_of_ble_eq_true rfl, Nat.le_of_ble_eq_true rfl⟩) ⟨pc_blind, va_recv hK hP (ci := 0) (q0 := 1) rfl rfl, fun U hU hW => ⟨rfl, pc_mk hP hD hK hS hX hT [1] [] rfl rfl rfl rfl hF2 hU hW⟩⟩ rfl rfl hl.1 rfl (lv_room (Nat.le_of_ble_eq_true rfl)) dX9_shown_14 ⟨(Nat.le_of_ble_eq_true rfl), (Nat.le_of_ble_eq_true rfl)⟩) hS (fun q9 _ h9 => hF2 q9 h9) hF2 (fun r5 u4 t4 H4 L4 ht4 hvm4 hw4 hB4 hz4 hk4 hS => ?_)
  obtain ⟨hP, hD, hK⟩ := pq_join (wr := [(h0, .inr (8, [.int 0, .ref h1, .ref h2, .ref h3, .ref h4, .int 0])), (h2, .inr (0, [.int 0, .ref z.1, .int 0])), (h3, .inr (0, [.int 0, .ref z.1, .int 0])), (h4, .inr (0, [.int 0, .ref z.1, .int 0]))]) (tr := []) (wz := [(h0, .inr (8, [.int 0, .ref h1, .ref h2, .ref h3, .ref h4, .int 0])), (h2, .inr (0, [.int 0, .ref z.1, .int 0])), (h3, .inr (0, [.int 0, .ref z.1, .int 0])), (h4, .inr (0, [.int 0, .ref z.1, .int 0])), (h1, .inr (0, [.int 0, .ref z.1, .int 0]))]) (tz := []) hP hD hK [1] [0, 2, 3, 4] [] rfl rfl (by decide) (by decide) rfl hk4 hF2 hB4 ht4 hvm4 rfl rfl
  refine W.eq (g2 := F0 m 17 ls [.int 0, .int 0]) (by rw [hw4]) ?_
  refine lv_icmp_ge (tgt := 119) hx hb dX9_shown_17 (by decide) (fun _ => ?_) (fun cz => absurd (by decide) cz)
  refine lv_iload_n hx hb dX9_shown_119 rfl (lv_at hl 1 rfl) ?_
  exact W.iret (v := 0) hx hb hr (fun t9 ht9 hW9 => ⟨⟨0, (), rfl, rfl, pq_mk (wc := [(h0, .inr (8, [.int 0, .ref h1, .ref h2, .ref h3, .ref h4, .int 0])), (h1, .inr (0, [.int 0, .ref z.1, .int 0])), (h2, .inr (0, [.int 0, .ref z.1, .int 0])), (h3, .inr (0, [.int 0, .ref z.1, .int 0])), (h4, .inr (0, [.int 0, .ref z.1, .int 0]))]) (tc := []) hP hD hK [0, 4, 1, 2, 3] [] rfl rfl rfl rfl ht9 hW9⟩, hS.F ht9⟩) hS.2.2 dX9_shown_120

set_option maxHeartbeats 4000000 in
set_option maxRecDepth 100000 in
theorem k260_activity (l : Launch) (hl9 : l.stackTraces = false) (dC : Nat → ClassId) (dI : Nat → Nat → Nat) (z : XZ) (h0 h1 h2 h3 h4 h5 h6 h7 h8 : Nat) (sz : Nat) (kc0 : ClassId) : Met l yX6_activity (.code yX6_activity cX6_activity 5 (some .long) :: wsL_law) ({ frames := 1, cells := 0, slots := 0, locals := 20 }) (va_Pc [.ref h0] (PC (dC, dI) [(h0, .inr (6, [.ref h1, .ref h2, .ref h3])), (h1, .inr (2, [.ref h4, .ref h5, .ref h6, .ref h7])), (h2, .inr (5, [.ref h1, .int 0])), (h3, .inr (4, [.ref h1, .ref h8, .int 0])), (h4, .inr (0, [.int 0, .ref z.1, .int 0])), (h5, .inr (0, [.int 0, .ref z.1, .int 0])), (h6, .inr (0, [.int 0, .ref z.1, .int 0])), (h7, .inr (0, [.int 0, .ref z.1, .int 0])), (h8, .inl (kc0, 8, .inl (fun _ => 0)))] [(kc0, .int)] sz z)) (va_Ql (fun (r : Int64) (_ : Unit) => r = 0) (fun (_ : Unit) (t : State) => PQ (dC, dI) [(h0, .inr (6, [.ref h1, .ref h2, .ref h3])), (h1, .inr (2, [.ref h4, .ref h5, .ref h6, .ref h7])), (h2, .inr (5, [.ref h1, .int 0])), (h3, .inr (4, [.ref h1, .ref h8, .int 0])), (h4, .inr (0, [.int 0, .ref z.1, .int 0])), (h5, .inr (0, [.int 0, .ref z.1, .int 0])), (h6, .inr (0, [.int 0, .ref z.1, .int 0])), (h7, .inr (0, [.int 0, .ref z.1, .int 0])), (h8, .inl (kc0, 8, .inl (fun _ => 0)))] [(kc0, .int)] (va_A [(h0, .inr (6, [.ref h1, .ref h2, .ref h3])), (h1, .inr (2, [.ref h4, .ref h5, .ref h6, .ref h7])), (h2, .inr (5, [.ref h1, .int 0])), (h3, .inr (4, [.ref h1, .ref h8, .int 0])), (h4, .inr (0, [.int 0, .ref z.1, .int 0])), (h5, .inr (0, [.int 0, .ref z.1, .int 0])), (h6, .inr (0, [.int 0, .ref z.1, .int 0])), (h7, .inr (0, [.int 0, .ref z.1, .int 0])), (h8, .inl (kc0, 8, .inl (fun _ => 0)))] sz) t) (va_A [(h0, .inr (6, [.ref h1, .ref h2, .ref h3])), (h1, .inr (2, [.ref h4, .ref h5, .ref h6, .ref h7])), (h2, .inr (5, [.ref h1, .int 0])), (h3, .inr (4, [.ref h1, .ref h8, .int 0])), (h4, .inr (0, [.int 0, .ref z.1, .int 0])), (h5, .inr (0, [.int 0, .ref z.1, .int 0])), (h6, .inr (0, [.int 0, .ref z.1, .int 0])), (h7, .inr (0, [.int 0, .ref z.1, .int 0])), (h8, .inl (kc0, 8, .inl (fun _ => 0)))] sz)) 0 0 (va_A [(h0, .inr (6, [.ref h1, .ref h2, .ref h3])), (h1, .inr (2, [.ref h4, .ref h5, .ref h6, .ref h7])), (h2, .inr (5, [.ref h1, .int 0])), (h3, .inr (4, [.ref h1, .ref h8, .int 0])), (h4, .inr (0, [.int 0, .ref z.1, .int 0])), (h5, .inr (0, [.int 0, .ref z.1, .int 0])), (h6, .inr (0, [.int 0, .ref z.1, .int 0])), (h7, .inr (0, [.int 0, .ref z.1, .int 0])), (h8, .inl (kc0, 8, .inl (fun _ => 0)))] sz) := by
  refine Met.ofW (cc := cX6_activity) (maxL := 5) (ret := (some .long)) (by decide) rfl ?_
  intro p e s m args below meth c s₁ B hml hv
  obtain ⟨rfl, hsz, hP, hK, hD0, hX, hT⟩ := hv
  have hx := B.exec
  have hb := B.bytes
  have hr := B.returns
  have hts0 := atoms_spec (ws := .code yX6_activity cX6_activity 5 (some .long) :: wsL_law) B.pre
  have hts := xTail hts0
  have hown : s.vm.findClass RX6 = some m.cls := findClass_of_methodNamed B.named
  have hlocks := B.notSynchronized
  subst hsz
  have hD := hD0.self (sz := s.heap.size)
  generalize hAe : va_A [(h0, .inr (6, [.ref h1, .ref h2, .ref h3])), (h1, .inr (2, [.ref h4, .ref h5, .ref h6, .ref h7])), (h2, .inr (5, [.ref h1, .int 0])), (h3, .inr (4, [.ref h1, .ref h8, .int 0])), (h4, .inr (0, [.int 0, .ref z.1, .int 0])), (h5, .inr (0, [.int 0, .ref z.1, .int 0])), (h6, .inr (0, [.int 0, .ref z.1, .int 0])), (h7, .inr (0, [.int 0, .ref z.1, .int 0])), (h8, .inl (kc0, 8, .inl (fun _ => 0)))] s.heap.size = A at hD hX ⊢
  have hA : ∀ q : Nat, s.heap.size ≤ q → A q := fun q h => by rw [← hAe]; exact Or.inr h
  have hS : va_S A s.heap s.heap [] := va_S.rf
  have hl := lv_entry ([.ref h0]) (n := 5) (Nat.le_of_ble_eq_true rfl)
  rw [lg_entry_eq]
  generalize (lg_sl ([.ref h0]) ++ List.replicate (5 - (lg_sl ([.ref h0])).length) Slot.unset).toArray = ls at hl ⊢
  have hl : lv_has ls 5 [(0, .ref h0)] := hl
  refine lv_lconst (v := 0) hx hb dX6_activity_0 (by decide) ?_
  refine lv_lstore_n (lv' := [(1, .long 0), (0, .ref h0)]) hx hb dX6_activity_1 rfl hl (by decide) rfl (fun ls hl => ?_)
  refine lv_iconst (v := 0) hx hb dX6_activity_2 (by decide) ?_
  refine lv_istore_n (lv' := [(3, .int 0), (1, .long 0), (0, .ref h0)]) hx hb dX6_activity_3 rfl hl (by decide) rfl (fun ls hl => ?_)
  refine lv_iload_n hx hb dX6_activity_4 rfl (lv_at hl 0 rfl) ?_
  refine lv_aload_n hx hb dX6_activity_5 rfl (lv_at hl 2 rfl) ?_
  refine va_get (D := (dC, dI)) (ci := 6) (v := .ref h1) (C := RX6) (T := TX6) (N := 3) hx hb hts in_X6 hown hK hP 0 rfl rfl 0 (by decide) (hts _ q_31) (fun _ h9 => h9) rfl dX6_activity_6 ?_
  refine va_get (D := (dC, dI)) (ci := 2) (v := .ref h4) (C := RX0) (T := TX0) (N := 4) hx hb hts in_X0 hown hK hP 1 rfl rfl 0 (by decide) (hts _ q_70) (fun _ h9 => h9) rfl dX6_activity_9 ?_
  have hF1 := va_free (wc := [(h4, .inr (0, [.int 0, .ref z.1, .int 0]))]) hD hS hA [4] rfl
  refine va_calli (va_runV (As := []) (rest := [.int 0]) ⟨hx, hb, hml, hown, hts⟩ (k9_size l hl9 dC dI z h4 s.heap.size 0 0) (cwV 0 hts (gV q_62 q_63 q_64 q_9 q_61) rfl rfl rfl (by decide +kernel) ⟨Nat.le_of_ble_eq_true rfl, Nat.le_of_ble_eq_true rfl⟩) ⟨pc_blind, va_recv hK hP (ci := 0) (q0 := 4) rfl rfl, fun U hU hW => ⟨rfl, pc_mk hP hD hK hS hX hT [4] [] rfl rfl rfl rfl hF1 hU hW⟩⟩ rfl rfl hl.1 rfl (lv_room (Nat.le_of_ble_eq_true rfl)) dX6_activity_12 ⟨(Nat.le_of_ble_eq_true rfl), (Nat.le_of_ble_eq_true rfl)⟩) hS (fun q9 _ h9 => hF1 q9 h9) hF1 (fun r4 u3 t3 H3 L3 ht3 hvm3 hw3 hB3 hz3 hk3 hS => ?_)
  obtain ⟨hP, hD, hK⟩ := pq_join (wr := [(h0, .inr (6, [.ref h1, .ref h2, .ref h3])), (h1, .inr (2, [.ref h4, .ref h5, .ref h6, .ref h7])), (h2, .inr (5, [.ref h1, .int 0])), (h3, .inr (4, [.ref h1, .ref h8, .int 0])), (h5, .inr (0, [.int 0, .ref z.1, .int 0])), (h6, .inr (0, [.int 0, .ref z.1, .int 0])), (h7, .inr (0, [.int 0, .ref z.1, .int 0])), (h8, .inl (kc0, 8, .inl (fun _ => 0)))]) (tr := [(kc0, .int)]) (wz := [(h0, .inr (6, [.ref h1, .ref h2, .ref h3])), (h1, .inr (2, [.ref h4, .ref h5, .ref h6, .ref h7])), (h2, .inr (5, [.ref h1, .int 0])), (h3, .inr (4, [.ref h1, .ref h8, .int 0])), (h5, .inr (0, [.int 0, .ref z.1, .int 0])), (h6, .inr (0, [.int 0, .ref z.1, .int 0])), (h7, .inr (0, [.int 0, .ref z.1, .int 0])), (h8, .inl (kc0, 8, .inl (fun _ => 0))), (h4, .inr (0, [.int 0, .ref z.1, .int 0]))]) (tz := [(kc0, .int)]) hP hD hK [4] [0, 1, 2, 3, 5, 6, 7, 8] [0] rfl rfl (by decide) (by decide) rfl hk3 hF1 hB3 ht3 hvm3 rfl rfl
  refine W.eq (g2 := F0 m 15 ls [.int 0, .int 0]) (by rw [hw3]) ?_
  refine lv_icmp_ge (tgt := 58) hx hb dX6_activity_15 (by decide) (fun _ => ?_) (fun cz => absurd (by decide) cz)
  refine lv_lload_n hx hb dX6_activity_58 rfl (lv_at hl 1 rfl) ?_
  exact W.lret (v := 0) hx hb hr (fun t9 ht9 hW9 => ⟨⟨0, (), rfl, rfl, pq_mk (wc := [(h0, .inr (6, [.ref h1, .ref h2, .ref h3])), (h1, .inr (2, [.ref h4, .ref h5, .ref h6, .ref h7])), (h2, .inr (5, [.ref h1, .int 0])), (h3, .inr (4, [.ref h1, .ref h8, .int 0])), (h4, .inr (0, [.int 0, .ref z.1, .int 0])), (h5, .inr (0, [.int 0, .ref z.1, .int 0])), (h6, .inr (0, [.int 0, .ref z.1, .int 0])), (h7, .inr (0, [.int 0, .ref z.1, .int 0])), (h8, .inl (kc0, 8, .inl (fun _ => 0)))]) (tc := [(kc0, .int)]) hP hD hK [0, 1, 2, 3, 8, 4, 5, 6, 7] [0] rfl rfl rfl rfl ht9 hW9⟩, hS.F ht9⟩) hS.2.2 dX6_activity_59

set_option maxHeartbeats 4000000 in
set_option maxRecDepth 100000 in
theorem k261_activity (l : Launch) (hl9 : l.stackTraces = false) (dC : Nat → ClassId) (dI : Nat → Nat → Nat) (z : XZ) (h0 h1 h2 h3 h4 : Nat) (sz : Nat) : Met l yX9_activity (.code yX9_activity cX9_activity 7 (some .long) :: wsL_law) ({ frames := 1, cells := 0, slots := 0, locals := 20 }) (va_Pc [.ref h0] (PC (dC, dI) [(h0, .inr (8, [.int 0, .ref h1, .ref h2, .ref h3, .ref h4, .int 0])), (h1, .inr (0, [.int 0, .ref z.1, .int 0])), (h2, .inr (0, [.int 0, .ref z.1, .int 0])), (h3, .inr (0, [.int 0, .ref z.1, .int 0])), (h4, .inr (0, [.int 0, .ref z.1, .int 0]))] [] sz z)) (va_Ql (fun (r : Int64) (_ : Unit) => r = 0) (fun (_ : Unit) (t : State) => PQ (dC, dI) [(h0, .inr (8, [.int 0, .ref h1, .ref h2, .ref h3, .ref h4, .int 0])), (h1, .inr (0, [.int 0, .ref z.1, .int 0])), (h2, .inr (0, [.int 0, .ref z.1, .int 0])), (h3, .inr (0, [.int 0, .ref z.1, .int 0])), (h4, .inr (0, [.int 0, .ref z.1, .int 0]))] [] (va_A [(h0, .inr (8, [.int 0, .ref h1, .ref h2, .ref h3, .ref h4, .int 0])), (h1, .inr (0, [.int 0, .ref z.1, .int 0])), (h2, .inr (0, [.int 0, .ref z.1, .int 0])), (h3, .inr (0, [.int 0, .ref z.1, .int 0])), (h4, .inr (0, [.int 0, .ref z.1, .int 0]))] sz) t) (va_A [(h0, .inr (8, [.int 0, .ref h1, .ref h2, .ref h3, .ref h4, .int 0])), (h1, .inr (0, [.int 0, .ref z.1, .int 0])), (h2, .inr (0, [.int 0, .ref z.1, .int 0])), (h3, .inr (0, [.int 0, .ref z.1, .int 0])), (h4, .inr (0, [.int 0, .ref z.1, .int 0]))] sz)) 0 0 (va_A [(h0, .inr (8, [.int 0, .ref h1, .ref h2, .ref h3, .ref h4, .int 0])), (h1, .inr (0, [.int 0, .ref z.1, .int 0])), (h2, .inr (0, [.int 0, .ref z.1, .int 0])), (h3, .inr (0, [.int 0, .ref z.1, .int 0])), (h4, .inr (0, [.int 0, .ref z.1, .int 0]))] sz) := by
  refine Met.ofW (cc := cX9_activity) (maxL := 7) (ret := (some .long)) (by decide) rfl ?_
  intro p e s m args below meth c s₁ B hml hv
  obtain ⟨rfl, hsz, hP, hK, hD0, hX, hT⟩ := hv
  have hx := B.exec
  have hb := B.bytes
  have hr := B.returns
  have hts0 := atoms_spec (ws := .code yX9_activity cX9_activity 7 (some .long) :: wsL_law) B.pre
  have hts := xTail hts0
  have hown : s.vm.findClass RX9 = some m.cls := findClass_of_methodNamed B.named
  have hlocks := B.notSynchronized
  subst hsz
  have hD := hD0.self (sz := s.heap.size)
  generalize hAe : va_A [(h0, .inr (8, [.int 0, .ref h1, .ref h2, .ref h3, .ref h4, .int 0])), (h1, .inr (0, [.int 0, .ref z.1, .int 0])), (h2, .inr (0, [.int 0, .ref z.1, .int 0])), (h3, .inr (0, [.int 0, .ref z.1, .int 0])), (h4, .inr (0, [.int 0, .ref z.1, .int 0]))] s.heap.size = A at hD hX ⊢
  have hA : ∀ q : Nat, s.heap.size ≤ q → A q := fun q h => by rw [← hAe]; exact Or.inr h
  have hS : va_S A s.heap s.heap [] := va_S.rf
  have hl := lv_entry ([.ref h0]) (n := 7) (Nat.le_of_ble_eq_true rfl)
  rw [lg_entry_eq]
  generalize (lg_sl ([.ref h0]) ++ List.replicate (7 - (lg_sl ([.ref h0])).length) Slot.unset).toArray = ls at hl ⊢
  have hl : lv_has ls 7 [(0, .ref h0)] := hl
  refine lv_aload_n hx hb dX9_activity_0 rfl (lv_at hl 0 rfl) ?_
  refine lv_iconst (v := 0) hx hb dX9_activity_1 (by decide) ?_
  refine va_put (D := (dC, dI)) (ci := 8) (v := .int 0) (ty := .int) (C := RX9) (T := TX9) (N := 6) hx hb hts in_X9 tyX9 tyX9_ok nmX9 hown hK hP hD hS 0 rfl rfl 0 (by decide) (hts _ q_230) (fun _ h9 => h9) rfl (by decide +kernel) rfl rfl (Nat.le_of_ble_eq_true rfl) dX9_activity_2 (fun H1 _ hP hD hS => ?_)
  have hP : va_P (dC, dI) xCl [(h0, .inr (8, [.int 0, .ref h1, .ref h2, .ref h3, .ref h4, .int 0])), (h1, .inr (0, [.int 0, .ref z.1, .int 0])), (h2, .inr (0, [.int 0, .ref z.1, .int 0])), (h3, .inr (0, [.int 0, .ref z.1, .int 0])), (h4, .inr (0, [.int 0, .ref z.1, .int 0]))] H1 := hP
  have hD : va_D A [(h0, .inr (8, [.int 0, .ref h1, .ref h2, .ref h3, .ref h4, .int 0])), (h1, .inr (0, [.int 0, .ref z.1, .int 0])), (h2, .inr (0, [.int 0, .ref z.1, .int 0])), (h3, .inr (0, [.int 0, .ref z.1, .int 0])), (h4, .inr (0, [.int 0, .ref z.1, .int 0]))] := hD
  refine lv_lconst (v := 0) hx hb dX9_activity_5 (by decide) ?_
  refine lv_lstore_n (lv' := [(1, .long 0), (0, .ref h0)]) hx hb dX9_activity_6 rfl hl (by decide) rfl (fun ls hl => ?_)
  refine lv_iconst (v := 0) hx hb dX9_activity_7 (by decide) ?_
  refine lv_istore_n (lv' := [(3, .int 0), (1, .long 0), (0, .ref h0)]) hx hb dX9_activity_8 rfl hl (by decide) rfl (fun ls hl => ?_)
  refine lv_iload_n hx hb dX9_activity_9 rfl (lv_at hl 0 rfl) ?_
  refine lv_aload_n hx hb dX9_activity_10 rfl (lv_at hl 2 rfl) ?_
  refine va_get (D := (dC, dI)) (ci := 8) (v := .ref h1) (C := RX9) (T := TX9) (N := 6) hx hb hts in_X9 hown hK hP 0 rfl rfl 1 (by decide) (hts _ q_55) (fun _ h9 => h9) rfl dX9_activity_11 ?_
  have hF2 := va_free (wc := [(h1, .inr (0, [.int 0, .ref z.1, .int 0]))]) hD hS hA [1] rfl
  refine va_calli (va_runV (As := []) (rest := [.int 0]) ⟨hx, hb, hml, hown, hts⟩ (k9_size l hl9 dC dI z h1 H1.size 0 0) (cwV 0 hts (gV q_260 q_63 q_64 q_9 q_61) rfl rfl rfl (by decide +kernel) ⟨Nat.le_of_ble_eq_true rfl, Nat.le_of_ble_eq_true rfl⟩) ⟨pc_blind, va_recv hK hP (ci := 0) (q0 := 1) rfl rfl, fun U hU hW => ⟨rfl, pc_mk hP hD hK hS hX hT [1] [] rfl rfl rfl rfl hF2 hU hW⟩⟩ rfl rfl hl.1 rfl (lv_room (Nat.le_of_ble_eq_true rfl)) dX9_activity_14 ⟨(Nat.le_of_ble_eq_true rfl), (Nat.le_of_ble_eq_true rfl)⟩) hS (fun q9 _ h9 => hF2 q9 h9) hF2 (fun r5 u4 t4 H4 L4 ht4 hvm4 hw4 hB4 hz4 hk4 hS => ?_)
  obtain ⟨hP, hD, hK⟩ := pq_join (wr := [(h0, .inr (8, [.int 0, .ref h1, .ref h2, .ref h3, .ref h4, .int 0])), (h2, .inr (0, [.int 0, .ref z.1, .int 0])), (h3, .inr (0, [.int 0, .ref z.1, .int 0])), (h4, .inr (0, [.int 0, .ref z.1, .int 0]))]) (tr := []) (wz := [(h0, .inr (8, [.int 0, .ref h1, .ref h2, .ref h3, .ref h4, .int 0])), (h2, .inr (0, [.int 0, .ref z.1, .int 0])), (h3, .inr (0, [.int 0, .ref z.1, .int 0])), (h4, .inr (0, [.int 0, .ref z.1, .int 0])), (h1, .inr (0, [.int 0, .ref z.1, .int 0]))]) (tz := []) hP hD hK [1] [0, 2, 3, 4] [] rfl rfl (by decide) (by decide) rfl hk4 hF2 hB4 ht4 hvm4 rfl rfl
  refine W.eq (g2 := F0 m 17 ls [.int 0, .int 0]) (by rw [hw4]) ?_
  refine lv_icmp_ge (tgt := 106) hx hb dX9_activity_17 (by decide) (fun _ => ?_) (fun cz => absurd (by decide) cz)
  refine lv_lload_n hx hb dX9_activity_106 rfl (lv_at hl 1 rfl) ?_
  exact W.lret (v := 0) hx hb hr (fun t9 ht9 hW9 => ⟨⟨0, (), rfl, rfl, pq_mk (wc := [(h0, .inr (8, [.int 0, .ref h1, .ref h2, .ref h3, .ref h4, .int 0])), (h1, .inr (0, [.int 0, .ref z.1, .int 0])), (h2, .inr (0, [.int 0, .ref z.1, .int 0])), (h3, .inr (0, [.int 0, .ref z.1, .int 0])), (h4, .inr (0, [.int 0, .ref z.1, .int 0]))]) (tc := []) hP hD hK [0, 4, 1, 2, 3] [] rfl rfl rfl rfl ht9 hW9⟩, hS.F ht9⟩) hS.2.2 dX9_activity_107

set_option maxHeartbeats 4000000 in
set_option maxRecDepth 100000 in
theorem k262_isEmpty (l : Launch) (hl9 : l.stackTraces = false) (dC : Nat → ClassId) (dI : Nat → Nat → Nat) (z : XZ) (h0 : Nat) (sz : Nat) : Met l yJx4a65c_isEmpty_aae02 (.code yJx4a65c_isEmpty_aae02 cJx4a65c_isEmpty_aae02 1 (some .boolean) :: wsL_law) ({ frames := 0, cells := 0, slots := 0, locals := 0 }) (va_Pc [.ref h0] (PC (dC, dI) [(h0, .inr (0, [.int 0, .ref z.1, .int 0]))] [] sz z)) (va_Qi (fun (r : Int32) (_ : Unit) => r = 1) (fun (_ : Unit) (t : State) => PQ (dC, dI) [(h0, .inr (0, [.int 0, .ref z.1, .int 0]))] [] (va_A [(h0, .inr (0, [.int 0, .ref z.1, .int 0]))] sz) t) (va_A [(h0, .inr (0, [.int 0, .ref z.1, .int 0]))] sz)) 0 0 (va_A [(h0, .inr (0, [.int 0, .ref z.1, .int 0]))] sz) := by
  refine Met.ofW (cc := cJx4a65c_isEmpty_aae02) (maxL := 1) (ret := (some .boolean)) (by decide) rfl ?_
  intro p e s m args below meth c s₁ B hml hv
  obtain ⟨rfl, hsz, hP, hK, hD0, hX, hT⟩ := hv
  have hx := B.exec
  have hb := B.bytes
  have hr := B.returns
  have hts0 := atoms_spec (ws := .code yJx4a65c_isEmpty_aae02 cJx4a65c_isEmpty_aae02 1 (some .boolean) :: wsL_law) B.pre
  have hts := xTail hts0
  have hown : s.vm.findClass RJx4a65c = some m.cls := findClass_of_methodNamed B.named
  have hlocks := B.notSynchronized
  subst hsz
  have hD := hD0.self (sz := s.heap.size)
  generalize hAe : va_A [(h0, .inr (0, [.int 0, .ref z.1, .int 0]))] s.heap.size = A at hD hX ⊢
  have hA : ∀ q : Nat, s.heap.size ≤ q → A q := fun q h => by rw [← hAe]; exact Or.inr h
  have hS : va_S A s.heap s.heap [] := va_S.rf
  have hl := lv_entry ([.ref h0]) (n := 1) (Nat.le_of_ble_eq_true rfl)
  rw [lg_entry_eq]
  generalize (lg_sl ([.ref h0]) ++ List.replicate (1 - (lg_sl ([.ref h0])).length) Slot.unset).toArray = ls at hl ⊢
  have hl : lv_has ls 1 [(0, .ref h0)] := hl
  refine lv_aload_n hx hb dJx4a65c_isEmpty_aae02_0 rfl (lv_at hl 0 rfl) ?_
  refine va_get (D := (dC, dI)) (ci := 0) (v := .int 0) (C := RJx4a65c) (T := TJx4a65c) (N := 3) hx hb hts in_Jx4a65c hown hK hP 0 rfl rfl 2 (by decide) (hts _ q_60) (fun _ h9 => h9) rfl dJx4a65c_isEmpty_aae02_1 ?_
  refine lv_if_ne (tgt := 11) hx hb dJx4a65c_isEmpty_aae02_4 (by decide) (fun cz => absurd (by decide) cz) (fun _ => ?_)
  refine lv_iconst (v := 1) hx hb dJx4a65c_isEmpty_aae02_7 (by decide) ?_
  refine lv_goto (tgt := 12) hx hb dJx4a65c_isEmpty_aae02_8 (by decide) ?_
  exact W.zret (v := 1) (ty := .boolean) hx hb hr rfl (fun t9 ht9 hW9 => ⟨⟨1, (), rfl, rfl, pq_mk (wc := [(h0, .inr (0, [.int 0, .ref z.1, .int 0]))]) (tc := []) hP hD hK [0] [] rfl rfl rfl rfl ht9 hW9⟩, hS.F ht9⟩) hS.2.2 dJx4a65c_isEmpty_aae02_12

set_option maxHeartbeats 4000000 in
set_option maxRecDepth 100000 in
theorem k263_requireSomeNet (l : Launch) (hl9 : l.stackTraces = false) (dC : Nat → ClassId) (dI : Nat → Nat → Nat) (z : XZ) (h0 h1 h2 h3 h4 h5 h6 h7 h8 : Nat) (sz : Nat) (kc0 : ClassId) : vx_Met l yX6_requireSomeNet (.code yX6_requireSomeNet cX6_requireSomeNet 1 none :: wsL_law) ({ frames := 7, cells := 1, slots := 6, locals := 100 }) (va_Pc [.ref h0] (PC (dC, dI) [(h0, .inr (6, [.ref h1, .ref h2, .ref h3])), (h1, .inr (2, [.ref h4, .ref h5, .ref h6, .ref h7])), (h2, .inr (5, [.ref h1, .int 0])), (h3, .inr (4, [.ref h1, .ref h8, .int 0])), (h4, .inr (0, [.int 0, .ref z.1, .int 0])), (h5, .inr (0, [.int 0, .ref z.1, .int 0])), (h6, .inr (0, [.int 0, .ref z.1, .int 0])), (h7, .inr (0, [.int 0, .ref z.1, .int 0])), (h8, .inl (kc0, 8, .inl (fun _ => 0)))] [(kc0, .int)] sz z)) (va_Qv (fun (_ : Unit) => False) (fun _ _ => True) (va_A [(h0, .inr (6, [.ref h1, .ref h2, .ref h3])), (h1, .inr (2, [.ref h4, .ref h5, .ref h6, .ref h7])), (h2, .inr (5, [.ref h1, .int 0])), (h3, .inr (4, [.ref h1, .ref h8, .int 0])), (h4, .inr (0, [.int 0, .ref z.1, .int 0])), (h5, .inr (0, [.int 0, .ref z.1, .int 0])), (h6, .inr (0, [.int 0, .ref z.1, .int 0])), (h7, .inr (0, [.int 0, .ref z.1, .int 0])), (h8, .inl (kc0, 8, .inl (fun _ => 0)))] sz)) (vx_X (fun (_ : Unit) => True) (fun (E : String) (_ : Unit) (_ : State) => E = "java/lang/ArithmeticException") (va_A [(h0, .inr (6, [.ref h1, .ref h2, .ref h3])), (h1, .inr (2, [.ref h4, .ref h5, .ref h6, .ref h7])), (h2, .inr (5, [.ref h1, .int 0])), (h3, .inr (4, [.ref h1, .ref h8, .int 0])), (h4, .inr (0, [.int 0, .ref z.1, .int 0])), (h5, .inr (0, [.int 0, .ref z.1, .int 0])), (h6, .inr (0, [.int 0, .ref z.1, .int 0])), (h7, .inr (0, [.int 0, .ref z.1, .int 0])), (h8, .inl (kc0, 8, .inl (fun _ => 0)))] sz)) 1 6 (va_A [(h0, .inr (6, [.ref h1, .ref h2, .ref h3])), (h1, .inr (2, [.ref h4, .ref h5, .ref h6, .ref h7])), (h2, .inr (5, [.ref h1, .int 0])), (h3, .inr (4, [.ref h1, .ref h8, .int 0])), (h4, .inr (0, [.int 0, .ref z.1, .int 0])), (h5, .inr (0, [.int 0, .ref z.1, .int 0])), (h6, .inr (0, [.int 0, .ref z.1, .int 0])), (h7, .inr (0, [.int 0, .ref z.1, .int 0])), (h8, .inl (kc0, 8, .inl (fun _ => 0)))] sz) := by
  refine vx_ofW (cc := cX6_requireSomeNet) (maxL := 1) (ret := none) (by decide) rfl ?_
  intro p e s m args below meth c s₁ B hml hnt hv
  obtain ⟨rfl, hsz, hP, hK, hD0, hX, hT⟩ := hv
  have hx := B.exec
  have hb := B.bytes
  have hr := B.returns
  have hts0 := atoms_spec (ws := .code yX6_requireSomeNet cX6_requireSomeNet 1 none :: wsL_law) B.pre
  have hts := xTail hts0
  have hown : s.vm.findClass RX6 = some m.cls := findClass_of_methodNamed B.named
  have hlocks := B.notSynchronized
  subst hsz
  have hD := hD0.self (sz := s.heap.size)
  generalize hAe : va_A [(h0, .inr (6, [.ref h1, .ref h2, .ref h3])), (h1, .inr (2, [.ref h4, .ref h5, .ref h6, .ref h7])), (h2, .inr (5, [.ref h1, .int 0])), (h3, .inr (4, [.ref h1, .ref h8, .int 0])), (h4, .inr (0, [.int 0, .ref z.1, .int 0])), (h5, .inr (0, [.int 0, .ref z.1, .int 0])), (h6, .inr (0, [.int 0, .ref z.1, .int 0])), (h7, .inr (0, [.int 0, .ref z.1, .int 0])), (h8, .inl (kc0, 8, .inl (fun _ => 0)))] s.heap.size = A at hD hX ⊢
  have hA : ∀ q : Nat, s.heap.size ≤ q → A q := fun q h => by rw [← hAe]; exact Or.inr h
  have hS : va_S A s.heap s.heap [] := va_S.rf
  have hl := lv_entry ([.ref h0]) (n := 1) (Nat.le_of_ble_eq_true rfl)
  rw [lg_entry_eq]
  generalize (lg_sl ([.ref h0]) ++ List.replicate (1 - (lg_sl ([.ref h0])).length) Slot.unset).toArray = ls at hl ⊢
  have hl : lv_has ls 1 [(0, .ref h0)] := hl
  refine lv_aload_n hx hb dX6_requireSomeNet_0 rfl (lv_at hl 0 rfl) ?_
  refine va_get (D := (dC, dI)) (ci := 6) (v := .ref h1) (C := RX6) (T := TX6) (N := 3) hx hb hts in_X6 hown hK hP 0 rfl rfl 0 (by decide) (hts _ q_31) (fun _ h9 => h9) rfl dX6_requireSomeNet_1 ?_
  refine va_get (D := (dC, dI)) (ci := 2) (v := .ref h4) (C := RX0) (T := TX0) (N := 4) hx hb hts in_X0 hown hK hP 1 rfl rfl 0 (by decide) (hts _ q_70) (fun _ h9 => h9) rfl dX6_requireSomeNet_4 ?_
  have hF1 := va_free (wc := [(h4, .inr (0, [.int 0, .ref z.1, .int 0]))]) hD hS hA [4] rfl
  refine va_calli (va_runV (As := []) (rest := []) ⟨hx, hb, hml, hown, hts⟩ (k262_isEmpty l hl9 dC dI z h4 s.heap.size) (cwV 0 hts (gV q_628 q_629 q_630 q_9 q_627) rfl rfl rfl (by decide +kernel) ⟨Nat.le_of_ble_eq_true rfl, Nat.le_of_ble_eq_true rfl⟩) ⟨pc_blind, va_recv hK hP (ci := 0) (q0 := 4) rfl rfl, fun U hU hW => ⟨rfl, pc_mk hP hD hK hS hX hT [4] [] rfl rfl rfl rfl hF1 hU hW⟩⟩ rfl rfl hl.1 rfl (lv_room (Nat.le_of_ble_eq_true rfl)) dX6_requireSomeNet_7 ⟨(Nat.le_of_ble_eq_true rfl), (Nat.le_of_ble_eq_true rfl)⟩) hS (fun q9 _ h9 => hF1 q9 h9) hF1 (fun r4 u3 t3 H3 L3 ht3 hvm3 hw3 hB3 hz3 hk3 hS => ?_)
  obtain ⟨hP, hD, hK⟩ := pq_join (wr := [(h0, .inr (6, [.ref h1, .ref h2, .ref h3])), (h1, .inr (2, [.ref h4, .ref h5, .ref h6, .ref h7])), (h2, .inr (5, [.ref h1, .int 0])), (h3, .inr (4, [.ref h1, .ref h8, .int 0])), (h5, .inr (0, [.int 0, .ref z.1, .int 0])), (h6, .inr (0, [.int 0, .ref z.1, .int 0])), (h7, .inr (0, [.int 0, .ref z.1, .int 0])), (h8, .inl (kc0, 8, .inl (fun _ => 0)))]) (tr := [(kc0, .int)]) (wz := [(h0, .inr (6, [.ref h1, .ref h2, .ref h3])), (h1, .inr (2, [.ref h4, .ref h5, .ref h6, .ref h7])), (h2, .inr (5, [.ref h1, .int 0])), (h3, .inr (4, [.ref h1, .ref h8, .int 0])), (h5, .inr (0, [.int 0, .ref z.1, .int 0])), (h6, .inr (0, [.int 0, .ref z.1, .int 0])), (h7, .inr (0, [.int 0, .ref z.1, .int 0])), (h8, .inl (kc0, 8, .inl (fun _ => 0))), (h4, .inr (0, [.int 0, .ref z.1, .int 0]))]) (tz := [(kc0, .int)]) hP hD hK [4] [0, 1, 2, 3, 5, 6, 7, 8] [0] rfl rfl (by decide) (by decide) rfl hk3 hF1 hB3 ht3 hvm3 rfl rfl
  refine W.eq (g2 := F0 m 10 ls [.int 1]) (by rw [hw3]) ?_
  refine lv_if_eq (tgt := 24) hx hb dX6_requireSomeNet_10 (by decide) (fun cz => absurd cz (by decide)) (fun _ => ?_)
  obtain ⟨sa9, hsa9⟩ := hT.1 (271, "there are no nets") (by decide)
  exact vx_throwSW (cls := "java/lang/ArithmeticException") (names := ["java/lang/RuntimeException", "java/lang/Exception"]) hx hb hl9 hown (by decide +kernel) (by decide +kernel) (hts _ q_631) (hts _ q_632) hsa9 (xhat_273 hts hT) xot_273 hX.2.2.2.1 hX.2.2.2.2 hS (hl.1.trans hml.symm) dX6_requireSomeNet_13 dX6_requireSomeNet_16 dX6_requireSomeNet_17 dX6_requireSomeNet_20 dX6_requireSomeNet_23 (fun x9 hx9 => (hnt x9 hx9).elim) (by decide) (by decide) (Nat.le_of_ble_eq_true rfl) (Nat.le_of_ble_eq_true rfl) hlocks (fun t9 hv9 h1 h2 => ⟨(), trivial, rfl, xF hS h1 h2⟩) hS.2.2 (by decide) (by decide)

set_option maxHeartbeats 4000000 in
set_option maxRecDepth 100000 in
theorem k264_knownShare (l : Launch) (hl9 : l.stackTraces = false) (dC : Nat → ClassId) (dI : Nat → Nat → Nat) (z : XZ) (h0 h1 h2 h3 h4 h5 h6 h7 h8 : Nat) (sz : Nat) (kc0 : ClassId) : vx_Met l yX6_knownShare (.code yX6_knownShare cX6_knownShare 3 (some .float) :: wsL_law) ({ frames := 8, cells := 1, slots := 6, locals := 120 }) (va_Pc [.ref h0] (PC (dC, dI) [(h0, .inr (6, [.ref h1, .ref h2, .ref h3])), (h1, .inr (2, [.ref h4, .ref h5, .ref h6, .ref h7])), (h2, .inr (5, [.ref h1, .int 0])), (h3, .inr (4, [.ref h1, .ref h8, .int 0])), (h4, .inr (0, [.int 0, .ref z.1, .int 0])), (h5, .inr (0, [.int 0, .ref z.1, .int 0])), (h6, .inr (0, [.int 0, .ref z.1, .int 0])), (h7, .inr (0, [.int 0, .ref z.1, .int 0])), (h8, .inl (kc0, 8, .inl (fun _ => 0)))] [(kc0, .int)] sz z)) (va_Qf (fun (_ : UInt32) (_ : Unit) => False) (fun _ _ => True) (va_A [(h0, .inr (6, [.ref h1, .ref h2, .ref h3])), (h1, .inr (2, [.ref h4, .ref h5, .ref h6, .ref h7])), (h2, .inr (5, [.ref h1, .int 0])), (h3, .inr (4, [.ref h1, .ref h8, .int 0])), (h4, .inr (0, [.int 0, .ref z.1, .int 0])), (h5, .inr (0, [.int 0, .ref z.1, .int 0])), (h6, .inr (0, [.int 0, .ref z.1, .int 0])), (h7, .inr (0, [.int 0, .ref z.1, .int 0])), (h8, .inl (kc0, 8, .inl (fun _ => 0)))] sz)) (vx_X (fun (_ : Unit) => True) (fun (E : String) (_ : Unit) (_ : State) => E = "java/lang/ArithmeticException") (va_A [(h0, .inr (6, [.ref h1, .ref h2, .ref h3])), (h1, .inr (2, [.ref h4, .ref h5, .ref h6, .ref h7])), (h2, .inr (5, [.ref h1, .int 0])), (h3, .inr (4, [.ref h1, .ref h8, .int 0])), (h4, .inr (0, [.int 0, .ref z.1, .int 0])), (h5, .inr (0, [.int 0, .ref z.1, .int 0])), (h6, .inr (0, [.int 0, .ref z.1, .int 0])), (h7, .inr (0, [.int 0, .ref z.1, .int 0])), (h8, .inl (kc0, 8, .inl (fun _ => 0)))] sz)) 1 6 (va_A [(h0, .inr (6, [.ref h1, .ref h2, .ref h3])), (h1, .inr (2, [.ref h4, .ref h5, .ref h6, .ref h7])), (h2, .inr (5, [.ref h1, .int 0])), (h3, .inr (4, [.ref h1, .ref h8, .int 0])), (h4, .inr (0, [.int 0, .ref z.1, .int 0])), (h5, .inr (0, [.int 0, .ref z.1, .int 0])), (h6, .inr (0, [.int 0, .ref z.1, .int 0])), (h7, .inr (0, [.int 0, .ref z.1, .int 0])), (h8, .inl (kc0, 8, .inl (fun _ => 0)))] sz) := by
  refine vx_ofW (cc := cX6_knownShare) (maxL := 3) (ret := (some .float)) (by decide) rfl ?_
  intro p e s m args below meth c s₁ B hml hnt hv
  obtain ⟨rfl, hsz, hP, hK, hD0, hX, hT⟩ := hv
  have hx := B.exec
  have hb := B.bytes
  have hr := B.returns
  have hts0 := atoms_spec (ws := .code yX6_knownShare cX6_knownShare 3 (some .float) :: wsL_law) B.pre
  have hts := xTail hts0
  have hown : s.vm.findClass RX6 = some m.cls := findClass_of_methodNamed B.named
  have hlocks := B.notSynchronized
  subst hsz
  have hD := hD0.self (sz := s.heap.size)
  generalize hAe : va_A [(h0, .inr (6, [.ref h1, .ref h2, .ref h3])), (h1, .inr (2, [.ref h4, .ref h5, .ref h6, .ref h7])), (h2, .inr (5, [.ref h1, .int 0])), (h3, .inr (4, [.ref h1, .ref h8, .int 0])), (h4, .inr (0, [.int 0, .ref z.1, .int 0])), (h5, .inr (0, [.int 0, .ref z.1, .int 0])), (h6, .inr (0, [.int 0, .ref z.1, .int 0])), (h7, .inr (0, [.int 0, .ref z.1, .int 0])), (h8, .inl (kc0, 8, .inl (fun _ => 0)))] s.heap.size = A at hD hX ⊢
  have hA : ∀ q : Nat, s.heap.size ≤ q → A q := fun q h => by rw [← hAe]; exact Or.inr h
  have hS : va_S A s.heap s.heap [] := va_S.rf
  have hl := lv_entry ([.ref h0]) (n := 3) (Nat.le_of_ble_eq_true rfl)
  rw [lg_entry_eq]
  generalize (lg_sl ([.ref h0]) ++ List.replicate (3 - (lg_sl ([.ref h0])).length) Slot.unset).toArray = ls at hl ⊢
  have hl : lv_has ls 3 [(0, .ref h0)] := hl
  refine lv_aload_n hx hb dX6_knownShare_0 rfl (lv_at hl 0 rfl) ?_
  have hF1 := va_free (wc := [(h0, .inr (6, [.ref h1, .ref h2, .ref h3])), (h1, .inr (2, [.ref h4, .ref h5, .ref h6, .ref h7])), (h2, .inr (5, [.ref h1, .int 0])), (h3, .inr (4, [.ref h1, .ref h8, .int 0])), (h4, .inr (0, [.int 0, .ref z.1, .int 0])), (h5, .inr (0, [.int 0, .ref z.1, .int 0])), (h6, .inr (0, [.int 0, .ref z.1, .int 0])), (h7, .inr (0, [.int 0, .ref z.1, .int 0])), (h8, .inl (kc0, 8, .inl (fun _ => 0)))]) hD hS hA [0, 1, 2, 3, 4, 5, 6, 7, 8] rfl
  refine vx_callv (SX := Unit) (vx_runV (As := []) (rest := []) ⟨hx, hb, hml, hown, hts⟩ (k263_requireSomeNet l hl9 dC dI z h0 h1 h2 h3 h4 h5 h6 h7 h8 s.heap.size kc0) (cwV 0 hts (gV q_634 q_635 q_636 q_69 q_633) rfl rfl rfl (by decide +kernel) ⟨Nat.le_of_ble_eq_true rfl, Nat.le_of_ble_eq_true rfl⟩) ⟨pc_blind, va_recv hK hP (ci := 6) (q0 := 0) rfl rfl, fun U hU hW => ⟨rfl, pc_mk hP hD hK hS hX hT [0, 1, 2, 3, 4, 5, 6, 7, 8] [0] rfl rfl rfl rfl hF1 hU hW⟩⟩ rfl rfl hl.1 rfl (lv_room (Nat.le_of_ble_eq_true rfl)) dX6_knownShare_1 ⟨(Nat.le_of_ble_eq_true rfl), (Nat.le_of_ble_eq_true rfl)⟩) hS (fun q9 _ h9 => hF1 q9 h9) hF1 (fun q9 _ h9 => hF1 q9 h9) (fun E3 ce3 x3 v3 t3 H3 L3 ht3 hvm3 hw3 hB3 hz3 hk3 hS hc3 hn3 hf3 => ?_) (fun _ _ _ _ _ _ hw9 _ _ _ _ => hw9.elim)
  obtain ⟨hP, hD⟩ := pq_rest (wr := []) hP hD [0, 1, 2, 3, 4, 5, 6, 7, 8] [] rfl rfl (by decide) (by decide) hk3 hF1
  exact vx_out (fun x9 hx9 => (hnt x9 hx9).elim) hlocks hc3 hn3 hf3 (fun t9 ht9 hv9 => ⟨(), trivial, hB3, hS.F ht9⟩) hS.2.2 (by decide) (by decide)

set_option maxHeartbeats 4000000 in
set_option maxRecDepth 100000 in
theorem k265_knownShare (l : Launch) (hl9 : l.stackTraces = false) (dC : Nat → ClassId) (dI : Nat → Nat → Nat) (z : XZ) (h0 h1 h2 h3 h4 h5 h6 h7 h8 h9 : Nat) (sz : Nat) (kc0 kc1 : ClassId) : Met l yL_knownShare (.codeWith yL_knownShare cL_knownShare 3 (some .int) [(0, 8, 11, 96)] :: wsL_law) ({ frames := 9, cells := 1, slots := 6, locals := 142 }) (va_Pc [.ref h0, .ref h1] (PC (dC, dI) [(h0, .inr (6, [.ref h2, .ref h3, .ref h4])), (h1, .inl (kc0, 1, .inr (.inr (.inr (.inl (fun _ => 0)))))), (h2, .inr (2, [.ref h5, .ref h6, .ref h7, .ref h8])), (h3, .inr (5, [.ref h2, .int 0])), (h4, .inr (4, [.ref h2, .ref h9, .int 0])), (h5, .inr (0, [.int 0, .ref z.1, .int 0])), (h6, .inr (0, [.int 0, .ref z.1, .int 0])), (h7, .inr (0, [.int 0, .ref z.1, .int 0])), (h8, .inr (0, [.int 0, .ref z.1, .int 0])), (h9, .inl (kc1, 8, .inl (fun _ => 0)))] [(kc0, .double), (kc1, .int)] sz z)) (va_Qi (fun (r : Int32) (_ : Unit) => r = 1) (fun (_ : Unit) (t : State) => PQ (dC, dI) [(h1, .inl (kc0, 1, .inr (.inr (.inr (.inl (fun _ => 0))))))] [(kc0, .double)] (va_A [(h0, .inr (6, [.ref h2, .ref h3, .ref h4])), (h1, .inl (kc0, 1, .inr (.inr (.inr (.inl (fun _ => 0)))))), (h2, .inr (2, [.ref h5, .ref h6, .ref h7, .ref h8])), (h3, .inr (5, [.ref h2, .int 0])), (h4, .inr (4, [.ref h2, .ref h9, .int 0])), (h5, .inr (0, [.int 0, .ref z.1, .int 0])), (h6, .inr (0, [.int 0, .ref z.1, .int 0])), (h7, .inr (0, [.int 0, .ref z.1, .int 0])), (h8, .inr (0, [.int 0, .ref z.1, .int 0])), (h9, .inl (kc1, 8, .inl (fun _ => 0)))] sz) t) (va_A [(h0, .inr (6, [.ref h2, .ref h3, .ref h4])), (h1, .inl (kc0, 1, .inr (.inr (.inr (.inl (fun _ => 0)))))), (h2, .inr (2, [.ref h5, .ref h6, .ref h7, .ref h8])), (h3, .inr (5, [.ref h2, .int 0])), (h4, .inr (4, [.ref h2, .ref h9, .int 0])), (h5, .inr (0, [.int 0, .ref z.1, .int 0])), (h6, .inr (0, [.int 0, .ref z.1, .int 0])), (h7, .inr (0, [.int 0, .ref z.1, .int 0])), (h8, .inr (0, [.int 0, .ref z.1, .int 0])), (h9, .inl (kc1, 8, .inl (fun _ => 0)))] sz)) 1 6 (va_A [(h0, .inr (6, [.ref h2, .ref h3, .ref h4])), (h1, .inl (kc0, 1, .inr (.inr (.inr (.inl (fun _ => 0)))))), (h2, .inr (2, [.ref h5, .ref h6, .ref h7, .ref h8])), (h3, .inr (5, [.ref h2, .int 0])), (h4, .inr (4, [.ref h2, .ref h9, .int 0])), (h5, .inr (0, [.int 0, .ref z.1, .int 0])), (h6, .inr (0, [.int 0, .ref z.1, .int 0])), (h7, .inr (0, [.int 0, .ref z.1, .int 0])), (h8, .inr (0, [.int 0, .ref z.1, .int 0])), (h9, .inl (kc1, 8, .inl (fun _ => 0)))] sz) := by
  refine va_MetW (cc := cL_knownShare) (maxL := 3) (ret := (some .int)) (hh := [(0, 8, 11, 96)]) (by decide) rfl ?_
  intro p e s m args below meth c s₁ B hml hv
  obtain ⟨rfl, hsz, hP, hK, hD0, hX, hT⟩ := hv
  have hx := B.exec
  have hb := B.bytes
  have hr := B.returns
  have hts0 := atoms_spec (ws := .codeWith yL_knownShare cL_knownShare 3 (some .int) [(0, 8, 11, 96)] :: wsL_law) B.pre
  have htab := vx_table B (hts0 _ List.mem_cons_self)
  have hts := xTail hts0
  have hown : s.vm.findClass RL = some m.cls := findClass_of_methodNamed B.named
  have hlocks := B.notSynchronized
  subst hsz
  have hD := hD0.self (sz := s.heap.size)
  generalize hAe : va_A [(h0, .inr (6, [.ref h2, .ref h3, .ref h4])), (h1, .inl (kc0, 1, .inr (.inr (.inr (.inl (fun _ => 0)))))), (h2, .inr (2, [.ref h5, .ref h6, .ref h7, .ref h8])), (h3, .inr (5, [.ref h2, .int 0])), (h4, .inr (4, [.ref h2, .ref h9, .int 0])), (h5, .inr (0, [.int 0, .ref z.1, .int 0])), (h6, .inr (0, [.int 0, .ref z.1, .int 0])), (h7, .inr (0, [.int 0, .ref z.1, .int 0])), (h8, .inr (0, [.int 0, .ref z.1, .int 0])), (h9, .inl (kc1, 8, .inl (fun _ => 0)))] s.heap.size = A at hD hX ⊢
  have hA : ∀ q : Nat, s.heap.size ≤ q → A q := fun q h => by rw [← hAe]; exact Or.inr h
  have hS : va_S A s.heap s.heap [] := va_S.rf
  have hl := lv_entry ([.ref h0, .ref h1]) (n := 3) (Nat.le_of_ble_eq_true rfl)
  rw [lg_entry_eq]
  generalize (lg_sl ([.ref h0, .ref h1]) ++ List.replicate (3 - (lg_sl ([.ref h0, .ref h1])).length) Slot.unset).toArray = ls at hl ⊢
  have hl : lv_has ls 3 [(0, .ref h0), (1, .ref h1)] := hl
  refine lv_aload_n hx hb dL_knownShare_0 rfl (lv_at hl 1 rfl) ?_
  refine lv_iconst (v := 0) hx hb dL_knownShare_1 (by decide) ?_
  refine lv_aload_n hx hb dL_knownShare_2 rfl (lv_at hl 0 rfl) ?_
  have hF1 := va_free (wc := [(h0, .inr (6, [.ref h2, .ref h3, .ref h4])), (h2, .inr (2, [.ref h5, .ref h6, .ref h7, .ref h8])), (h3, .inr (5, [.ref h2, .int 0])), (h4, .inr (4, [.ref h2, .ref h9, .int 0])), (h5, .inr (0, [.int 0, .ref z.1, .int 0])), (h6, .inr (0, [.int 0, .ref z.1, .int 0])), (h7, .inr (0, [.int 0, .ref z.1, .int 0])), (h8, .inr (0, [.int 0, .ref z.1, .int 0])), (h9, .inl (kc1, 8, .inl (fun _ => 0)))]) hD hS hA [0, 2, 3, 4, 5, 6, 7, 8, 9] rfl
  refine vx_callf (SX := Unit) (vx_runV (As := []) (rest := [.int 0, .ref h1]) ⟨hx, hb, hml, hown, hts⟩ (k264_knownShare l hl9 dC dI z h0 h2 h3 h4 h5 h6 h7 h8 h9 s.heap.size kc1) (cwV 0 hts (gV q_638 q_639 q_640 q_69 q_637) rfl rfl rfl (by decide +kernel) ⟨Nat.le_of_ble_eq_true rfl, Nat.le_of_ble_eq_true rfl⟩) ⟨pc_blind, va_recv hK hP (ci := 6) (q0 := 0) rfl rfl, fun U hU hW => ⟨rfl, pc_mk hP hD hK hS hX hT [0, 2, 3, 4, 5, 6, 7, 8, 9] [1] rfl rfl rfl rfl hF1 hU hW⟩⟩ rfl rfl hl.1 rfl (lv_room (Nat.le_of_ble_eq_true rfl)) dL_knownShare_3 ⟨(Nat.le_of_ble_eq_true rfl), (Nat.le_of_ble_eq_true rfl)⟩) hS (fun q9 _ h9 => hF1 q9 h9) hF1 (fun q9 _ h9 => hF1 q9 h9) (fun E3 ce3 x3 v3 t3 H3 L3 ht3 hvm3 hw3 hB3 hz3 hk3 hS hc3 hn3 hf3 => ?_) (fun _ _ _ _ _ _ _ hw9 _ _ _ _ => hw9.elim)
  obtain ⟨hP, hD⟩ := pq_rest (wr := [(h1, .inl (kc0, 1, .inr (.inr (.inr (.inl (fun _ => 0))))))]) hP hD [0, 2, 3, 4, 5, 6, 7, 8, 9] [1] rfl rfl (by decide) (by decide) hk3 hF1
  subst hB3
  refine vx_catch (own := RL) (name := "java/lang/ArithmeticException") hown [] ⟨0, 8, 11, 96⟩ [] htab (fun z9 hz9 => absurd hz9 List.not_mem_nil) (by decide) (by decide) (hts _ q_641) (va_Nw.use rfl (hT.2.1.1 ("java/lang/ArithmeticException", "java/lang/ArithmeticException") (by decide))) hc3 hn3 hf3 ?_
  refine lv_astore_n (lv' := [(2, .ref x3), (0, .ref h0), (1, .ref h1)]) hx hb dL_knownShare_11 rfl hl (by decide) rfl (fun ls hl => ?_)
  refine lv_iconst (v := 1) hx hb dL_knownShare_12 (by decide) ?_
  exact W.iret (v := 1) hx hb hr (fun t9 ht9 hW9 => ⟨⟨1, (), rfl, rfl, pq_mk (wc := [(h1, .inl (kc0, 1, .inr (.inr (.inr (.inl (fun _ => 0))))))]) (tc := [(kc0, .double)]) hP hD hK [0] [0] rfl rfl rfl rfl ht9 hW9⟩, hS.F ht9⟩) hS.2.2 dL_knownShare_13

set_option maxHeartbeats 4000000 in
set_option maxRecDepth 100000 in
theorem k266_knownShare (l : Launch) (hl9 : l.stackTraces = false) (dC : Nat → ClassId) (dI : Nat → Nat → Nat) (z : XZ) (h0 h1 h2 h3 h4 : Nat) (sz : Nat) : Met l yX9_knownShare (.code yX9_knownShare cX9_knownShare 4 (some .float) :: wsL_law) ({ frames := 1, cells := 0, slots := 0, locals := 22 }) (va_Pc [.ref h0] (PC (dC, dI) [(h0, .inr (8, [.int 0, .ref h1, .ref h2, .ref h3, .ref h4, .int 0])), (h1, .inr (0, [.int 0, .ref z.1, .int 0])), (h2, .inr (0, [.int 0, .ref z.1, .int 0])), (h3, .inr (0, [.int 0, .ref z.1, .int 0])), (h4, .inr (0, [.int 0, .ref z.1, .int 0]))] [] sz z)) (va_Qf (fun (_ : UInt32) (_ : Unit) => True) (fun (_ : Unit) (t : State) => PQ (dC, dI) [(h0, .inr (8, [.int 1, .ref h1, .ref h2, .ref h3, .ref h4, .int 0])), (h1, .inr (0, [.int 0, .ref z.1, .int 0])), (h2, .inr (0, [.int 0, .ref z.1, .int 0])), (h3, .inr (0, [.int 0, .ref z.1, .int 0])), (h4, .inr (0, [.int 0, .ref z.1, .int 0]))] [] (va_A [(h0, .inr (8, [.int 0, .ref h1, .ref h2, .ref h3, .ref h4, .int 0])), (h1, .inr (0, [.int 0, .ref z.1, .int 0])), (h2, .inr (0, [.int 0, .ref z.1, .int 0])), (h3, .inr (0, [.int 0, .ref z.1, .int 0])), (h4, .inr (0, [.int 0, .ref z.1, .int 0]))] sz) t) (va_A [(h0, .inr (8, [.int 0, .ref h1, .ref h2, .ref h3, .ref h4, .int 0])), (h1, .inr (0, [.int 0, .ref z.1, .int 0])), (h2, .inr (0, [.int 0, .ref z.1, .int 0])), (h3, .inr (0, [.int 0, .ref z.1, .int 0])), (h4, .inr (0, [.int 0, .ref z.1, .int 0]))] sz)) 0 0 (va_A [(h0, .inr (8, [.int 0, .ref h1, .ref h2, .ref h3, .ref h4, .int 0])), (h1, .inr (0, [.int 0, .ref z.1, .int 0])), (h2, .inr (0, [.int 0, .ref z.1, .int 0])), (h3, .inr (0, [.int 0, .ref z.1, .int 0])), (h4, .inr (0, [.int 0, .ref z.1, .int 0]))] sz) := by
  refine Met.ofW (cc := cX9_knownShare) (maxL := 4) (ret := (some .float)) (by decide) rfl ?_
  intro p e s m args below meth c s₁ B hml hv
  obtain ⟨rfl, hsz, hP, hK, hD0, hX, hT⟩ := hv
  have hx := B.exec
  have hb := B.bytes
  have hr := B.returns
  have hts0 := atoms_spec (ws := .code yX9_knownShare cX9_knownShare 4 (some .float) :: wsL_law) B.pre
  have hts := xTail hts0
  have hown : s.vm.findClass RX9 = some m.cls := findClass_of_methodNamed B.named
  have hlocks := B.notSynchronized
  subst hsz
  have hD := hD0.self (sz := s.heap.size)
  generalize hAe : va_A [(h0, .inr (8, [.int 0, .ref h1, .ref h2, .ref h3, .ref h4, .int 0])), (h1, .inr (0, [.int 0, .ref z.1, .int 0])), (h2, .inr (0, [.int 0, .ref z.1, .int 0])), (h3, .inr (0, [.int 0, .ref z.1, .int 0])), (h4, .inr (0, [.int 0, .ref z.1, .int 0]))] s.heap.size = A at hD hX ⊢
  have hA : ∀ q : Nat, s.heap.size ≤ q → A q := fun q h => by rw [← hAe]; exact Or.inr h
  have hS : va_S A s.heap s.heap [] := va_S.rf
  have hl := lv_entry ([.ref h0]) (n := 4) (Nat.le_of_ble_eq_true rfl)
  rw [lg_entry_eq]
  generalize (lg_sl ([.ref h0]) ++ List.replicate (4 - (lg_sl ([.ref h0])).length) Slot.unset).toArray = ls at hl ⊢
  have hl : lv_has ls 4 [(0, .ref h0)] := hl
  refine lv_aload_n hx hb dX9_knownShare_0 rfl (lv_at hl 0 rfl) ?_
  refine lv_iconst (v := 0) hx hb dX9_knownShare_1 (by decide) ?_
  refine va_put (D := (dC, dI)) (ci := 8) (v := .int 0) (ty := .int) (C := RX9) (T := TX9) (N := 6) hx hb hts in_X9 tyX9 tyX9_ok nmX9 hown hK hP hD hS 0 rfl rfl 0 (by decide) (hts _ q_230) (fun _ h9 => h9) rfl (by decide +kernel) rfl rfl (Nat.le_of_ble_eq_true rfl) dX9_knownShare_2 (fun H1 _ hP hD hS => ?_)
  have hP : va_P (dC, dI) xCl [(h0, .inr (8, [.int 0, .ref h1, .ref h2, .ref h3, .ref h4, .int 0])), (h1, .inr (0, [.int 0, .ref z.1, .int 0])), (h2, .inr (0, [.int 0, .ref z.1, .int 0])), (h3, .inr (0, [.int 0, .ref z.1, .int 0])), (h4, .inr (0, [.int 0, .ref z.1, .int 0]))] H1 := hP
  have hD : va_D A [(h0, .inr (8, [.int 0, .ref h1, .ref h2, .ref h3, .ref h4, .int 0])), (h1, .inr (0, [.int 0, .ref z.1, .int 0])), (h2, .inr (0, [.int 0, .ref z.1, .int 0])), (h3, .inr (0, [.int 0, .ref z.1, .int 0])), (h4, .inr (0, [.int 0, .ref z.1, .int 0]))] := hD
  refine lv_aload_n hx hb dX9_knownShare_5 rfl (lv_at hl 0 rfl) ?_
  refine lv_aload_n hx hb dX9_knownShare_6 rfl (lv_at hl 0 rfl) ?_
  refine va_get (D := (dC, dI)) (ci := 8) (v := .ref h1) (C := RX9) (T := TX9) (N := 6) hx hb hts in_X9 hown hK hP 0 rfl rfl 1 (by decide) (hts _ q_55) (fun _ h9 => h9) rfl dX9_knownShare_7 ?_
  have hF2 := va_free (wc := [(h1, .inr (0, [.int 0, .ref z.1, .int 0]))]) hD hS hA [1] rfl
  refine va_calli (va_runV (As := []) (rest := [.ref h0]) ⟨hx, hb, hml, hown, hts⟩ (k262_isEmpty l hl9 dC dI z h1 H1.size) (cwV 0 hts (gV q_645 q_629 q_630 q_9 q_627) rfl rfl rfl (by decide +kernel) ⟨Nat.le_of_ble_eq_true rfl, Nat.le_of_ble_eq_true rfl⟩) ⟨pc_blind, va_recv hK hP (ci := 0) (q0 := 1) rfl rfl, fun U hU hW => ⟨rfl, pc_mk hP hD hK hS hX hT [1] [] rfl rfl rfl rfl hF2 hU hW⟩⟩ rfl rfl hl.1 rfl (lv_room (Nat.le_of_ble_eq_true rfl)) dX9_knownShare_10 ⟨(Nat.le_of_ble_eq_true rfl), (Nat.le_of_ble_eq_true rfl)⟩) hS (fun q9 _ h9 => hF2 q9 h9) hF2 (fun r5 u4 t4 H4 L4 ht4 hvm4 hw4 hB4 hz4 hk4 hS => ?_)
  obtain ⟨hP, hD, hK⟩ := pq_join (wr := [(h0, .inr (8, [.int 0, .ref h1, .ref h2, .ref h3, .ref h4, .int 0])), (h2, .inr (0, [.int 0, .ref z.1, .int 0])), (h3, .inr (0, [.int 0, .ref z.1, .int 0])), (h4, .inr (0, [.int 0, .ref z.1, .int 0]))]) (tr := []) (wz := [(h0, .inr (8, [.int 0, .ref h1, .ref h2, .ref h3, .ref h4, .int 0])), (h2, .inr (0, [.int 0, .ref z.1, .int 0])), (h3, .inr (0, [.int 0, .ref z.1, .int 0])), (h4, .inr (0, [.int 0, .ref z.1, .int 0])), (h1, .inr (0, [.int 0, .ref z.1, .int 0]))]) (tz := []) hP hD hK [1] [0, 2, 3, 4] [] rfl rfl (by decide) (by decide) rfl hk4 hF2 hB4 ht4 hvm4 rfl rfl
  refine W.eq (g2 := F0 m 13 ls [.int 1, .ref h0]) (by rw [hw4]) ?_
  refine lv_iconst (v := 1) hx hb dX9_knownShare_13 (by decide) ?_
  have hF6 := va_free (wc := [(h0, .inr (8, [.int 0, .ref h1, .ref h2, .ref h3, .ref h4, .int 0])), (h1, .inr (0, [.int 0, .ref z.1, .int 0])), (h2, .inr (0, [.int 0, .ref z.1, .int 0])), (h3, .inr (0, [.int 0, .ref z.1, .int 0])), (h4, .inr (0, [.int 0, .ref z.1, .int 0]))]) hD hS hA [0, 4, 1, 2, 3] rfl
  refine va_calli (va_runV (As := [.int 1, .int 1]) (rest := []) ⟨hx, hb, hml, hown, hts⟩ (k196_fails l hl9 dC dI z h0 h1 h2 h3 h4 H4.size) (cwV 2 hts (gV q_257 q_258 q_259 q_255 q_256) rfl rfl rfl (by decide +kernel) ⟨Nat.le_of_ble_eq_true rfl, Nat.le_of_ble_eq_true rfl⟩) ⟨pc_blind, va_recv hK hP (ci := 8) (q0 := 0) rfl rfl, fun U hU hW => ⟨rfl, pc_mk hP hD hK hS hX hT [0, 4, 1, 2, 3] [] rfl rfl rfl rfl hF6 hU hW⟩⟩ rfl rfl hl.1 rfl (lv_room (Nat.le_of_ble_eq_true rfl)) dX9_knownShare_14 ⟨(Nat.le_of_ble_eq_true rfl), (Nat.le_of_ble_eq_true rfl)⟩) hS (fun q9 _ h9 => hF6 q9 h9) hF6 (fun r9 u8 t8 H8 L8 ht8 hvm8 hw8 hB8 hz8 hk8 hS => ?_)
  obtain ⟨hP, hD, hK⟩ := pq_join (wr := []) (tr := []) (wz := [(h0, .inr (8, [.int 1, .ref h1, .ref h2, .ref h3, .ref h4, .int 0])), (h1, .inr (0, [.int 0, .ref z.1, .int 0])), (h2, .inr (0, [.int 0, .ref z.1, .int 0])), (h3, .inr (0, [.int 0, .ref z.1, .int 0])), (h4, .inr (0, [.int 0, .ref z.1, .int 0]))]) (tz := []) hP hD hK [0, 4, 1, 2, 3] [] [] rfl rfl (by decide) (by decide) rfl hk8 hF6 hB8 ht8 hvm8 rfl rfl
  refine W.eq (g2 := F0 m 17 ls [.int 1]) (by rw [hw8]) ?_
  refine lv_if_eq (tgt := 22) hx hb dX9_knownShare_17 (by decide) (fun cz => absurd cz (by decide)) (fun _ => ?_)
  refine lv_fconst0 hx hb dX9_knownShare_20 ?_
  exact W.fret (v := FP.fconst0) hx hb hr (fun t9 ht9 hW9 => ⟨⟨FP.fconst0, (), rfl, trivial, pq_mk (wc := [(h0, .inr (8, [.int 1, .ref h1, .ref h2, .ref h3, .ref h4, .int 0])), (h1, .inr (0, [.int 0, .ref z.1, .int 0])), (h2, .inr (0, [.int 0, .ref z.1, .int 0])), (h3, .inr (0, [.int 0, .ref z.1, .int 0])), (h4, .inr (0, [.int 0, .ref z.1, .int 0]))]) (tc := []) hP hD hK [0, 1, 2, 3, 4] [] rfl rfl rfl rfl ht9 hW9⟩, hS.F ht9⟩) hS.2.2 dX9_knownShare_21

set_option maxHeartbeats 4000000 in
set_option maxRecDepth 100000 in
theorem k267_meanArrival (l : Launch) (hl9 : l.stackTraces = false) (dC : Nat → ClassId) (dI : Nat → Nat → Nat) (z : XZ) (h0 h1 h2 h3 h4 h5 h6 h7 h8 : Nat) (sz : Nat) (kc0 : ClassId) : vx_Met l yX6_meanArrival (.code yX6_meanArrival cX6_meanArrival 3 (some .double) :: wsL_law) ({ frames := 8, cells := 1, slots := 6, locals := 120 }) (va_Pc [.ref h0] (PC (dC, dI) [(h0, .inr (6, [.ref h1, .ref h2, .ref h3])), (h1, .inr (2, [.ref h4, .ref h5, .ref h6, .ref h7])), (h2, .inr (5, [.ref h1, .int 0])), (h3, .inr (4, [.ref h1, .ref h8, .int 0])), (h4, .inr (0, [.int 0, .ref z.1, .int 0])), (h5, .inr (0, [.int 0, .ref z.1, .int 0])), (h6, .inr (0, [.int 0, .ref z.1, .int 0])), (h7, .inr (0, [.int 0, .ref z.1, .int 0])), (h8, .inl (kc0, 8, .inl (fun _ => 0)))] [(kc0, .int)] sz z)) (va_Qd (fun (_ : UInt64) (_ : Unit) => False) (fun _ _ => True) (va_A [(h0, .inr (6, [.ref h1, .ref h2, .ref h3])), (h1, .inr (2, [.ref h4, .ref h5, .ref h6, .ref h7])), (h2, .inr (5, [.ref h1, .int 0])), (h3, .inr (4, [.ref h1, .ref h8, .int 0])), (h4, .inr (0, [.int 0, .ref z.1, .int 0])), (h5, .inr (0, [.int 0, .ref z.1, .int 0])), (h6, .inr (0, [.int 0, .ref z.1, .int 0])), (h7, .inr (0, [.int 0, .ref z.1, .int 0])), (h8, .inl (kc0, 8, .inl (fun _ => 0)))] sz)) (vx_X (fun (_ : Unit) => True) (fun (E : String) (_ : Unit) (_ : State) => E = "java/lang/ArithmeticException") (va_A [(h0, .inr (6, [.ref h1, .ref h2, .ref h3])), (h1, .inr (2, [.ref h4, .ref h5, .ref h6, .ref h7])), (h2, .inr (5, [.ref h1, .int 0])), (h3, .inr (4, [.ref h1, .ref h8, .int 0])), (h4, .inr (0, [.int 0, .ref z.1, .int 0])), (h5, .inr (0, [.int 0, .ref z.1, .int 0])), (h6, .inr (0, [.int 0, .ref z.1, .int 0])), (h7, .inr (0, [.int 0, .ref z.1, .int 0])), (h8, .inl (kc0, 8, .inl (fun _ => 0)))] sz)) 1 6 (va_A [(h0, .inr (6, [.ref h1, .ref h2, .ref h3])), (h1, .inr (2, [.ref h4, .ref h5, .ref h6, .ref h7])), (h2, .inr (5, [.ref h1, .int 0])), (h3, .inr (4, [.ref h1, .ref h8, .int 0])), (h4, .inr (0, [.int 0, .ref z.1, .int 0])), (h5, .inr (0, [.int 0, .ref z.1, .int 0])), (h6, .inr (0, [.int 0, .ref z.1, .int 0])), (h7, .inr (0, [.int 0, .ref z.1, .int 0])), (h8, .inl (kc0, 8, .inl (fun _ => 0)))] sz) := by
  refine vx_ofW (cc := cX6_meanArrival) (maxL := 3) (ret := (some .double)) (by decide) rfl ?_
  intro p e s m args below meth c s₁ B hml hnt hv
  obtain ⟨rfl, hsz, hP, hK, hD0, hX, hT⟩ := hv
  have hx := B.exec
  have hb := B.bytes
  have hr := B.returns
  have hts0 := atoms_spec (ws := .code yX6_meanArrival cX6_meanArrival 3 (some .double) :: wsL_law) B.pre
  have hts := xTail hts0
  have hown : s.vm.findClass RX6 = some m.cls := findClass_of_methodNamed B.named
  have hlocks := B.notSynchronized
  subst hsz
  have hD := hD0.self (sz := s.heap.size)
  generalize hAe : va_A [(h0, .inr (6, [.ref h1, .ref h2, .ref h3])), (h1, .inr (2, [.ref h4, .ref h5, .ref h6, .ref h7])), (h2, .inr (5, [.ref h1, .int 0])), (h3, .inr (4, [.ref h1, .ref h8, .int 0])), (h4, .inr (0, [.int 0, .ref z.1, .int 0])), (h5, .inr (0, [.int 0, .ref z.1, .int 0])), (h6, .inr (0, [.int 0, .ref z.1, .int 0])), (h7, .inr (0, [.int 0, .ref z.1, .int 0])), (h8, .inl (kc0, 8, .inl (fun _ => 0)))] s.heap.size = A at hD hX ⊢
  have hA : ∀ q : Nat, s.heap.size ≤ q → A q := fun q h => by rw [← hAe]; exact Or.inr h
  have hS : va_S A s.heap s.heap [] := va_S.rf
  have hl := lv_entry ([.ref h0]) (n := 3) (Nat.le_of_ble_eq_true rfl)
  rw [lg_entry_eq]
  generalize (lg_sl ([.ref h0]) ++ List.replicate (3 - (lg_sl ([.ref h0])).length) Slot.unset).toArray = ls at hl ⊢
  have hl : lv_has ls 3 [(0, .ref h0)] := hl
  refine lv_aload_n hx hb dX6_meanArrival_0 rfl (lv_at hl 0 rfl) ?_
  have hF1 := va_free (wc := [(h0, .inr (6, [.ref h1, .ref h2, .ref h3])), (h1, .inr (2, [.ref h4, .ref h5, .ref h6, .ref h7])), (h2, .inr (5, [.ref h1, .int 0])), (h3, .inr (4, [.ref h1, .ref h8, .int 0])), (h4, .inr (0, [.int 0, .ref z.1, .int 0])), (h5, .inr (0, [.int 0, .ref z.1, .int 0])), (h6, .inr (0, [.int 0, .ref z.1, .int 0])), (h7, .inr (0, [.int 0, .ref z.1, .int 0])), (h8, .inl (kc0, 8, .inl (fun _ => 0)))]) hD hS hA [0, 1, 2, 3, 4, 5, 6, 7, 8] rfl
  refine vx_callv (SX := Unit) (vx_runV (As := []) (rest := []) ⟨hx, hb, hml, hown, hts⟩ (k263_requireSomeNet l hl9 dC dI z h0 h1 h2 h3 h4 h5 h6 h7 h8 s.heap.size kc0) (cwV 0 hts (gV q_634 q_635 q_636 q_69 q_633) rfl rfl rfl (by decide +kernel) ⟨Nat.le_of_ble_eq_true rfl, Nat.le_of_ble_eq_true rfl⟩) ⟨pc_blind, va_recv hK hP (ci := 6) (q0 := 0) rfl rfl, fun U hU hW => ⟨rfl, pc_mk hP hD hK hS hX hT [0, 1, 2, 3, 4, 5, 6, 7, 8] [0] rfl rfl rfl rfl hF1 hU hW⟩⟩ rfl rfl hl.1 rfl (lv_room (Nat.le_of_ble_eq_true rfl)) dX6_meanArrival_1 ⟨(Nat.le_of_ble_eq_true rfl), (Nat.le_of_ble_eq_true rfl)⟩) hS (fun q9 _ h9 => hF1 q9 h9) hF1 (fun q9 _ h9 => hF1 q9 h9) (fun E3 ce3 x3 v3 t3 H3 L3 ht3 hvm3 hw3 hB3 hz3 hk3 hS hc3 hn3 hf3 => ?_) (fun _ _ _ _ _ _ hw9 _ _ _ _ => hw9.elim)
  obtain ⟨hP, hD⟩ := pq_rest (wr := []) hP hD [0, 1, 2, 3, 4, 5, 6, 7, 8] [] rfl rfl (by decide) (by decide) hk3 hF1
  exact vx_out (fun x9 hx9 => (hnt x9 hx9).elim) hlocks hc3 hn3 hf3 (fun t9 ht9 hv9 => ⟨(), trivial, hB3, hS.F ht9⟩) hS.2.2 (by decide) (by decide)

set_option maxHeartbeats 4000000 in
set_option maxRecDepth 100000 in
theorem k268_meanArrival (l : Launch) (hl9 : l.stackTraces = false) (dC : Nat → ClassId) (dI : Nat → Nat → Nat) (z : XZ) (h0 h1 h2 h3 h4 h5 h6 h7 h8 h9 : Nat) (sz : Nat) (kc0 kc1 : ClassId) : Met l yL_meanArrival (.codeWith yL_meanArrival cL_meanArrival 3 (some .int) [(0, 7, 10, 96)] :: wsL_law) ({ frames := 9, cells := 1, slots := 6, locals := 142 }) (va_Pc [.ref h0, .ref h1] (PC (dC, dI) [(h0, .inr (6, [.ref h2, .ref h3, .ref h4])), (h1, .inl (kc0, 1, .inr (.inr (.inr (.inl (fun _ => 0)))))), (h2, .inr (2, [.ref h5, .ref h6, .ref h7, .ref h8])), (h3, .inr (5, [.ref h2, .int 0])), (h4, .inr (4, [.ref h2, .ref h9, .int 0])), (h5, .inr (0, [.int 0, .ref z.1, .int 0])), (h6, .inr (0, [.int 0, .ref z.1, .int 0])), (h7, .inr (0, [.int 0, .ref z.1, .int 0])), (h8, .inr (0, [.int 0, .ref z.1, .int 0])), (h9, .inl (kc1, 8, .inl (fun _ => 0)))] [(kc0, .double), (kc1, .int)] sz z)) (va_Qi (fun (r : Int32) (_ : Unit) => r = 1) (fun (_ : Unit) (t : State) => PQ (dC, dI) [(h1, .inl (kc0, 1, .inr (.inr (.inr (.inl (fun _ => 0))))))] [(kc0, .double)] (va_A [(h0, .inr (6, [.ref h2, .ref h3, .ref h4])), (h1, .inl (kc0, 1, .inr (.inr (.inr (.inl (fun _ => 0)))))), (h2, .inr (2, [.ref h5, .ref h6, .ref h7, .ref h8])), (h3, .inr (5, [.ref h2, .int 0])), (h4, .inr (4, [.ref h2, .ref h9, .int 0])), (h5, .inr (0, [.int 0, .ref z.1, .int 0])), (h6, .inr (0, [.int 0, .ref z.1, .int 0])), (h7, .inr (0, [.int 0, .ref z.1, .int 0])), (h8, .inr (0, [.int 0, .ref z.1, .int 0])), (h9, .inl (kc1, 8, .inl (fun _ => 0)))] sz) t) (va_A [(h0, .inr (6, [.ref h2, .ref h3, .ref h4])), (h1, .inl (kc0, 1, .inr (.inr (.inr (.inl (fun _ => 0)))))), (h2, .inr (2, [.ref h5, .ref h6, .ref h7, .ref h8])), (h3, .inr (5, [.ref h2, .int 0])), (h4, .inr (4, [.ref h2, .ref h9, .int 0])), (h5, .inr (0, [.int 0, .ref z.1, .int 0])), (h6, .inr (0, [.int 0, .ref z.1, .int 0])), (h7, .inr (0, [.int 0, .ref z.1, .int 0])), (h8, .inr (0, [.int 0, .ref z.1, .int 0])), (h9, .inl (kc1, 8, .inl (fun _ => 0)))] sz)) 1 6 (va_A [(h0, .inr (6, [.ref h2, .ref h3, .ref h4])), (h1, .inl (kc0, 1, .inr (.inr (.inr (.inl (fun _ => 0)))))), (h2, .inr (2, [.ref h5, .ref h6, .ref h7, .ref h8])), (h3, .inr (5, [.ref h2, .int 0])), (h4, .inr (4, [.ref h2, .ref h9, .int 0])), (h5, .inr (0, [.int 0, .ref z.1, .int 0])), (h6, .inr (0, [.int 0, .ref z.1, .int 0])), (h7, .inr (0, [.int 0, .ref z.1, .int 0])), (h8, .inr (0, [.int 0, .ref z.1, .int 0])), (h9, .inl (kc1, 8, .inl (fun _ => 0)))] sz) := by
  refine va_MetW (cc := cL_meanArrival) (maxL := 3) (ret := (some .int)) (hh := [(0, 7, 10, 96)]) (by decide) rfl ?_
  intro p e s m args below meth c s₁ B hml hv
  obtain ⟨rfl, hsz, hP, hK, hD0, hX, hT⟩ := hv
  have hx := B.exec
  have hb := B.bytes
  have hr := B.returns
  have hts0 := atoms_spec (ws := .codeWith yL_meanArrival cL_meanArrival 3 (some .int) [(0, 7, 10, 96)] :: wsL_law) B.pre
  have htab := vx_table B (hts0 _ List.mem_cons_self)
  have hts := xTail hts0
  have hown : s.vm.findClass RL = some m.cls := findClass_of_methodNamed B.named
  have hlocks := B.notSynchronized
  subst hsz
  have hD := hD0.self (sz := s.heap.size)
  generalize hAe : va_A [(h0, .inr (6, [.ref h2, .ref h3, .ref h4])), (h1, .inl (kc0, 1, .inr (.inr (.inr (.inl (fun _ => 0)))))), (h2, .inr (2, [.ref h5, .ref h6, .ref h7, .ref h8])), (h3, .inr (5, [.ref h2, .int 0])), (h4, .inr (4, [.ref h2, .ref h9, .int 0])), (h5, .inr (0, [.int 0, .ref z.1, .int 0])), (h6, .inr (0, [.int 0, .ref z.1, .int 0])), (h7, .inr (0, [.int 0, .ref z.1, .int 0])), (h8, .inr (0, [.int 0, .ref z.1, .int 0])), (h9, .inl (kc1, 8, .inl (fun _ => 0)))] s.heap.size = A at hD hX ⊢
  have hA : ∀ q : Nat, s.heap.size ≤ q → A q := fun q h => by rw [← hAe]; exact Or.inr h
  have hS : va_S A s.heap s.heap [] := va_S.rf
  have hl := lv_entry ([.ref h0, .ref h1]) (n := 3) (Nat.le_of_ble_eq_true rfl)
  rw [lg_entry_eq]
  generalize (lg_sl ([.ref h0, .ref h1]) ++ List.replicate (3 - (lg_sl ([.ref h0, .ref h1])).length) Slot.unset).toArray = ls at hl ⊢
  have hl : lv_has ls 3 [(0, .ref h0), (1, .ref h1)] := hl
  refine lv_aload_n hx hb dL_meanArrival_0 rfl (lv_at hl 1 rfl) ?_
  refine lv_iconst (v := 0) hx hb dL_meanArrival_1 (by decide) ?_
  refine lv_aload_n hx hb dL_meanArrival_2 rfl (lv_at hl 0 rfl) ?_
  have hF1 := va_free (wc := [(h0, .inr (6, [.ref h2, .ref h3, .ref h4])), (h2, .inr (2, [.ref h5, .ref h6, .ref h7, .ref h8])), (h3, .inr (5, [.ref h2, .int 0])), (h4, .inr (4, [.ref h2, .ref h9, .int 0])), (h5, .inr (0, [.int 0, .ref z.1, .int 0])), (h6, .inr (0, [.int 0, .ref z.1, .int 0])), (h7, .inr (0, [.int 0, .ref z.1, .int 0])), (h8, .inr (0, [.int 0, .ref z.1, .int 0])), (h9, .inl (kc1, 8, .inl (fun _ => 0)))]) hD hS hA [0, 2, 3, 4, 5, 6, 7, 8, 9] rfl
  refine vx_calld (SX := Unit) (vx_runV (As := []) (rest := [.int 0, .ref h1]) ⟨hx, hb, hml, hown, hts⟩ (k267_meanArrival l hl9 dC dI z h0 h2 h3 h4 h5 h6 h7 h8 h9 s.heap.size kc1) (cwV 0 hts (gV q_651 q_652 q_653 q_69 q_650) rfl rfl rfl (by decide +kernel) ⟨Nat.le_of_ble_eq_true rfl, Nat.le_of_ble_eq_true rfl⟩) ⟨pc_blind, va_recv hK hP (ci := 6) (q0 := 0) rfl rfl, fun U hU hW => ⟨rfl, pc_mk hP hD hK hS hX hT [0, 2, 3, 4, 5, 6, 7, 8, 9] [1] rfl rfl rfl rfl hF1 hU hW⟩⟩ rfl rfl hl.1 rfl (lv_room (Nat.le_of_ble_eq_true rfl)) dL_meanArrival_3 ⟨(Nat.le_of_ble_eq_true rfl), (Nat.le_of_ble_eq_true rfl)⟩) hS (fun q9 _ h9 => hF1 q9 h9) hF1 (fun q9 _ h9 => hF1 q9 h9) (fun E3 ce3 x3 v3 t3 H3 L3 ht3 hvm3 hw3 hB3 hz3 hk3 hS hc3 hn3 hf3 => ?_) (fun _ _ _ _ _ _ _ hw9 _ _ _ _ => hw9.elim)
  obtain ⟨hP, hD⟩ := pq_rest (wr := [(h1, .inl (kc0, 1, .inr (.inr (.inr (.inl (fun _ => 0))))))]) hP hD [0, 2, 3, 4, 5, 6, 7, 8, 9] [1] rfl rfl (by decide) (by decide) hk3 hF1
  subst hB3
  refine vx_catch (own := RL) (name := "java/lang/ArithmeticException") hown [] ⟨0, 7, 10, 96⟩ [] htab (fun z9 hz9 => absurd hz9 List.not_mem_nil) (by decide) (by decide) (hts _ q_641) (va_Nw.use rfl (hT.2.1.1 ("java/lang/ArithmeticException", "java/lang/ArithmeticException") (by decide))) hc3 hn3 hf3 ?_
  refine lv_astore_n (lv' := [(2, .ref x3), (0, .ref h0), (1, .ref h1)]) hx hb dL_meanArrival_10 rfl hl (by decide) rfl (fun ls hl => ?_)
  refine lv_iconst (v := 1) hx hb dL_meanArrival_11 (by decide) ?_
  exact W.iret (v := 1) hx hb hr (fun t9 ht9 hW9 => ⟨⟨1, (), rfl, rfl, pq_mk (wc := [(h1, .inl (kc0, 1, .inr (.inr (.inr (.inl (fun _ => 0))))))]) (tc := [(kc0, .double)]) hP hD hK [0] [0] rfl rfl rfl rfl ht9 hW9⟩, hS.F ht9⟩) hS.2.2 dL_meanArrival_12

set_option maxHeartbeats 4000000 in
set_option maxRecDepth 100000 in
theorem k269_meanArrival (l : Launch) (hl9 : l.stackTraces = false) (dC : Nat → ClassId) (dI : Nat → Nat → Nat) (z : XZ) (h0 h1 h2 h3 h4 : Nat) (sz : Nat) : Met l yX9_meanArrival (.code yX9_meanArrival cX9_meanArrival 4 (some .double) :: wsL_law) ({ frames := 1, cells := 0, slots := 0, locals := 22 }) (va_Pc [.ref h0] (PC (dC, dI) [(h0, .inr (8, [.int 0, .ref h1, .ref h2, .ref h3, .ref h4, .int 0])), (h1, .inr (0, [.int 0, .ref z.1, .int 0])), (h2, .inr (0, [.int 0, .ref z.1, .int 0])), (h3, .inr (0, [.int 0, .ref z.1, .int 0])), (h4, .inr (0, [.int 0, .ref z.1, .int 0]))] [] sz z)) (va_Qd (fun (_ : UInt64) (_ : Unit) => True) (fun (_ : Unit) (t : State) => PQ (dC, dI) [(h0, .inr (8, [.int 1, .ref h1, .ref h2, .ref h3, .ref h4, .int 0])), (h1, .inr (0, [.int 0, .ref z.1, .int 0])), (h2, .inr (0, [.int 0, .ref z.1, .int 0])), (h3, .inr (0, [.int 0, .ref z.1, .int 0])), (h4, .inr (0, [.int 0, .ref z.1, .int 0]))] [] (va_A [(h0, .inr (8, [.int 0, .ref h1, .ref h2, .ref h3, .ref h4, .int 0])), (h1, .inr (0, [.int 0, .ref z.1, .int 0])), (h2, .inr (0, [.int 0, .ref z.1, .int 0])), (h3, .inr (0, [.int 0, .ref z.1, .int 0])), (h4, .inr (0, [.int 0, .ref z.1, .int 0]))] sz) t) (va_A [(h0, .inr (8, [.int 0, .ref h1, .ref h2, .ref h3, .ref h4, .int 0])), (h1, .inr (0, [.int 0, .ref z.1, .int 0])), (h2, .inr (0, [.int 0, .ref z.1, .int 0])), (h3, .inr (0, [.int 0, .ref z.1, .int 0])), (h4, .inr (0, [.int 0, .ref z.1, .int 0]))] sz)) 0 0 (va_A [(h0, .inr (8, [.int 0, .ref h1, .ref h2, .ref h3, .ref h4, .int 0])), (h1, .inr (0, [.int 0, .ref z.1, .int 0])), (h2, .inr (0, [.int 0, .ref z.1, .int 0])), (h3, .inr (0, [.int 0, .ref z.1, .int 0])), (h4, .inr (0, [.int 0, .ref z.1, .int 0]))] sz) := by
  refine Met.ofW (cc := cX9_meanArrival) (maxL := 4) (ret := (some .double)) (by decide) rfl ?_
  intro p e s m args below meth c s₁ B hml hv
  obtain ⟨rfl, hsz, hP, hK, hD0, hX, hT⟩ := hv
  have hx := B.exec
  have hb := B.bytes
  have hr := B.returns
  have hts0 := atoms_spec (ws := .code yX9_meanArrival cX9_meanArrival 4 (some .double) :: wsL_law) B.pre
  have hts := xTail hts0
  have hown : s.vm.findClass RX9 = some m.cls := findClass_of_methodNamed B.named
  have hlocks := B.notSynchronized
  subst hsz
  have hD := hD0.self (sz := s.heap.size)
  generalize hAe : va_A [(h0, .inr (8, [.int 0, .ref h1, .ref h2, .ref h3, .ref h4, .int 0])), (h1, .inr (0, [.int 0, .ref z.1, .int 0])), (h2, .inr (0, [.int 0, .ref z.1, .int 0])), (h3, .inr (0, [.int 0, .ref z.1, .int 0])), (h4, .inr (0, [.int 0, .ref z.1, .int 0]))] s.heap.size = A at hD hX ⊢
  have hA : ∀ q : Nat, s.heap.size ≤ q → A q := fun q h => by rw [← hAe]; exact Or.inr h
  have hS : va_S A s.heap s.heap [] := va_S.rf
  have hl := lv_entry ([.ref h0]) (n := 4) (Nat.le_of_ble_eq_true rfl)
  rw [lg_entry_eq]
  generalize (lg_sl ([.ref h0]) ++ List.replicate (4 - (lg_sl ([.ref h0])).length) Slot.unset).toArray = ls at hl ⊢
  have hl : lv_has ls 4 [(0, .ref h0)] := hl
  refine lv_aload_n hx hb dX9_meanArrival_0 rfl (lv_at hl 0 rfl) ?_
  refine lv_iconst (v := 0) hx hb dX9_meanArrival_1 (by decide) ?_
  refine va_put (D := (dC, dI)) (ci := 8) (v := .int 0) (ty := .int) (C := RX9) (T := TX9) (N := 6) hx hb hts in_X9 tyX9 tyX9_ok nmX9 hown hK hP hD hS 0 rfl rfl 0 (by decide) (hts _ q_230) (fun _ h9 => h9) rfl (by decide +kernel) rfl rfl (Nat.le_of_ble_eq_true rfl) dX9_meanArrival_2 (fun H1 _ hP hD hS => ?_)
  have hP : va_P (dC, dI) xCl [(h0, .inr (8, [.int 0, .ref h1, .ref h2, .ref h3, .ref h4, .int 0])), (h1, .inr (0, [.int 0, .ref z.1, .int 0])), (h2, .inr (0, [.int 0, .ref z.1, .int 0])), (h3, .inr (0, [.int 0, .ref z.1, .int 0])), (h4, .inr (0, [.int 0, .ref z.1, .int 0]))] H1 := hP
  have hD : va_D A [(h0, .inr (8, [.int 0, .ref h1, .ref h2, .ref h3, .ref h4, .int 0])), (h1, .inr (0, [.int 0, .ref z.1, .int 0])), (h2, .inr (0, [.int 0, .ref z.1, .int 0])), (h3, .inr (0, [.int 0, .ref z.1, .int 0])), (h4, .inr (0, [.int 0, .ref z.1, .int 0]))] := hD
  refine lv_aload_n hx hb dX9_meanArrival_5 rfl (lv_at hl 0 rfl) ?_
  refine lv_aload_n hx hb dX9_meanArrival_6 rfl (lv_at hl 0 rfl) ?_
  refine va_get (D := (dC, dI)) (ci := 8) (v := .ref h1) (C := RX9) (T := TX9) (N := 6) hx hb hts in_X9 hown hK hP 0 rfl rfl 1 (by decide) (hts _ q_55) (fun _ h9 => h9) rfl dX9_meanArrival_7 ?_
  have hF2 := va_free (wc := [(h1, .inr (0, [.int 0, .ref z.1, .int 0]))]) hD hS hA [1] rfl
  refine va_calli (va_runV (As := []) (rest := [.ref h0]) ⟨hx, hb, hml, hown, hts⟩ (k262_isEmpty l hl9 dC dI z h1 H1.size) (cwV 0 hts (gV q_645 q_629 q_630 q_9 q_627) rfl rfl rfl (by decide +kernel) ⟨Nat.le_of_ble_eq_true rfl, Nat.le_of_ble_eq_true rfl⟩) ⟨pc_blind, va_recv hK hP (ci := 0) (q0 := 1) rfl rfl, fun U hU hW => ⟨rfl, pc_mk hP hD hK hS hX hT [1] [] rfl rfl rfl rfl hF2 hU hW⟩⟩ rfl rfl hl.1 rfl (lv_room (Nat.le_of_ble_eq_true rfl)) dX9_meanArrival_10 ⟨(Nat.le_of_ble_eq_true rfl), (Nat.le_of_ble_eq_true rfl)⟩) hS (fun q9 _ h9 => hF2 q9 h9) hF2 (fun r5 u4 t4 H4 L4 ht4 hvm4 hw4 hB4 hz4 hk4 hS => ?_)
  obtain ⟨hP, hD, hK⟩ := pq_join (wr := [(h0, .inr (8, [.int 0, .ref h1, .ref h2, .ref h3, .ref h4, .int 0])), (h2, .inr (0, [.int 0, .ref z.1, .int 0])), (h3, .inr (0, [.int 0, .ref z.1, .int 0])), (h4, .inr (0, [.int 0, .ref z.1, .int 0]))]) (tr := []) (wz := [(h0, .inr (8, [.int 0, .ref h1, .ref h2, .ref h3, .ref h4, .int 0])), (h2, .inr (0, [.int 0, .ref z.1, .int 0])), (h3, .inr (0, [.int 0, .ref z.1, .int 0])), (h4, .inr (0, [.int 0, .ref z.1, .int 0])), (h1, .inr (0, [.int 0, .ref z.1, .int 0]))]) (tz := []) hP hD hK [1] [0, 2, 3, 4] [] rfl rfl (by decide) (by decide) rfl hk4 hF2 hB4 ht4 hvm4 rfl rfl
  refine W.eq (g2 := F0 m 13 ls [.int 1, .ref h0]) (by rw [hw4]) ?_
  refine lv_iconst (v := 1) hx hb dX9_meanArrival_13 (by decide) ?_
  have hF6 := va_free (wc := [(h0, .inr (8, [.int 0, .ref h1, .ref h2, .ref h3, .ref h4, .int 0])), (h1, .inr (0, [.int 0, .ref z.1, .int 0])), (h2, .inr (0, [.int 0, .ref z.1, .int 0])), (h3, .inr (0, [.int 0, .ref z.1, .int 0])), (h4, .inr (0, [.int 0, .ref z.1, .int 0]))]) hD hS hA [0, 4, 1, 2, 3] rfl
  refine va_calli (va_runV (As := [.int 1, .int 1]) (rest := []) ⟨hx, hb, hml, hown, hts⟩ (k196_fails l hl9 dC dI z h0 h1 h2 h3 h4 H4.size) (cwV 2 hts (gV q_257 q_258 q_259 q_255 q_256) rfl rfl rfl (by decide +kernel) ⟨Nat.le_of_ble_eq_true rfl, Nat.le_of_ble_eq_true rfl⟩) ⟨pc_blind, va_recv hK hP (ci := 8) (q0 := 0) rfl rfl, fun U hU hW => ⟨rfl, pc_mk hP hD hK hS hX hT [0, 4, 1, 2, 3] [] rfl rfl rfl rfl hF6 hU hW⟩⟩ rfl rfl hl.1 rfl (lv_room (Nat.le_of_ble_eq_true rfl)) dX9_meanArrival_14 ⟨(Nat.le_of_ble_eq_true rfl), (Nat.le_of_ble_eq_true rfl)⟩) hS (fun q9 _ h9 => hF6 q9 h9) hF6 (fun r9 u8 t8 H8 L8 ht8 hvm8 hw8 hB8 hz8 hk8 hS => ?_)
  obtain ⟨hP, hD, hK⟩ := pq_join (wr := []) (tr := []) (wz := [(h0, .inr (8, [.int 1, .ref h1, .ref h2, .ref h3, .ref h4, .int 0])), (h1, .inr (0, [.int 0, .ref z.1, .int 0])), (h2, .inr (0, [.int 0, .ref z.1, .int 0])), (h3, .inr (0, [.int 0, .ref z.1, .int 0])), (h4, .inr (0, [.int 0, .ref z.1, .int 0]))]) (tz := []) hP hD hK [0, 4, 1, 2, 3] [] [] rfl rfl (by decide) (by decide) rfl hk8 hF6 hB8 ht8 hvm8 rfl rfl
  refine W.eq (g2 := F0 m 17 ls [.int 1]) (by rw [hw8]) ?_
  refine lv_if_eq (tgt := 22) hx hb dX9_meanArrival_17 (by decide) (fun cz => absurd cz (by decide)) (fun _ => ?_)
  refine lv_dconst0 hx hb dX9_meanArrival_20 ?_
  exact W.dret (v := FP.dconst0) hx hb hr (fun t9 ht9 hW9 => ⟨⟨FP.dconst0, (), rfl, trivial, pq_mk (wc := [(h0, .inr (8, [.int 1, .ref h1, .ref h2, .ref h3, .ref h4, .int 0])), (h1, .inr (0, [.int 0, .ref z.1, .int 0])), (h2, .inr (0, [.int 0, .ref z.1, .int 0])), (h3, .inr (0, [.int 0, .ref z.1, .int 0])), (h4, .inr (0, [.int 0, .ref z.1, .int 0]))]) (tc := []) hP hD hK [0, 1, 2, 3, 4] [] rfl rfl rfl rfl ht9 hW9⟩, hS.F ht9⟩) hS.2.2 dX9_meanArrival_21

set_option maxHeartbeats 4000000 in
set_option maxRecDepth 100000 in
theorem k270_settle (l : Launch) (hl9 : l.stackTraces = false) (dC : Nat → ClassId) (dI : Nat → Nat → Nat) (z : XZ) (h0 h1 h2 h3 h4 : Nat) (sz : Nat) : Met l yX0_settle (.code yX0_settle cX0_settle 5 none :: wsL_law) ({ frames := 1, cells := 0, slots := 0, locals := 20 }) (va_Pc [.ref h0, .null, .int 120] (PC (dC, dI) [(h0, .inr (2, [.ref h1, .ref h2, .ref h3, .ref h4])), (h1, .inr (0, [.int 0, .ref z.1, .int 0])), (h2, .inr (0, [.int 0, .ref z.1, .int 0])), (h3, .inr (0, [.int 0, .ref z.1, .int 0])), (h4, .inr (0, [.int 0, .ref z.1, .int 0]))] [] sz z)) (va_Qv (fun (_ : Unit) => True) (fun (_ : Unit) (t : State) => PQ (dC, dI) [(h0, .inr (2, [.ref h1, .ref h2, .ref h3, .ref h4])), (h1, .inr (0, [.int 0, .ref z.1, .int 0])), (h2, .inr (0, [.int 0, .ref z.1, .int 0])), (h3, .inr (0, [.int 0, .ref z.1, .int 0])), (h4, .inr (0, [.int 0, .ref z.1, .int 0]))] [] (va_A [(h0, .inr (2, [.ref h1, .ref h2, .ref h3, .ref h4])), (h1, .inr (0, [.int 0, .ref z.1, .int 0])), (h2, .inr (0, [.int 0, .ref z.1, .int 0])), (h3, .inr (0, [.int 0, .ref z.1, .int 0])), (h4, .inr (0, [.int 0, .ref z.1, .int 0]))] sz) t) (va_A [(h0, .inr (2, [.ref h1, .ref h2, .ref h3, .ref h4])), (h1, .inr (0, [.int 0, .ref z.1, .int 0])), (h2, .inr (0, [.int 0, .ref z.1, .int 0])), (h3, .inr (0, [.int 0, .ref z.1, .int 0])), (h4, .inr (0, [.int 0, .ref z.1, .int 0]))] sz)) 0 0 (va_A [(h0, .inr (2, [.ref h1, .ref h2, .ref h3, .ref h4])), (h1, .inr (0, [.int 0, .ref z.1, .int 0])), (h2, .inr (0, [.int 0, .ref z.1, .int 0])), (h3, .inr (0, [.int 0, .ref z.1, .int 0])), (h4, .inr (0, [.int 0, .ref z.1, .int 0]))] sz) := by
  refine Met.ofW (cc := cX0_settle) (maxL := 5) (ret := none) (by decide) rfl ?_
  intro p e s m args below meth c s₁ B hml hv
  obtain ⟨rfl, hsz, hP, hK, hD0, hX, hT⟩ := hv
  have hx := B.exec
  have hb := B.bytes
  have hr := B.returns
  have hts0 := atoms_spec (ws := .code yX0_settle cX0_settle 5 none :: wsL_law) B.pre
  have hts := xTail hts0
  have hown : s.vm.findClass RX0 = some m.cls := findClass_of_methodNamed B.named
  have hlocks := B.notSynchronized
  subst hsz
  have hD := hD0.self (sz := s.heap.size)
  generalize hAe : va_A [(h0, .inr (2, [.ref h1, .ref h2, .ref h3, .ref h4])), (h1, .inr (0, [.int 0, .ref z.1, .int 0])), (h2, .inr (0, [.int 0, .ref z.1, .int 0])), (h3, .inr (0, [.int 0, .ref z.1, .int 0])), (h4, .inr (0, [.int 0, .ref z.1, .int 0]))] s.heap.size = A at hD hX ⊢
  have hA : ∀ q : Nat, s.heap.size ≤ q → A q := fun q h => by rw [← hAe]; exact Or.inr h
  have hS : va_S A s.heap s.heap [] := va_S.rf
  have hl := lv_entry ([.ref h0, .null, .int 120]) (n := 5) (Nat.le_of_ble_eq_true rfl)
  rw [lg_entry_eq]
  generalize (lg_sl ([.ref h0, .null, .int 120]) ++ List.replicate (5 - (lg_sl ([.ref h0, .null, .int 120])).length) Slot.unset).toArray = ls at hl ⊢
  have hl : lv_has ls 5 [(0, .ref h0), (1, .null), (2, .int 120)] := hl
  refine lv_iconst (v := 0) hx hb dX0_settle_0 (by decide) ?_
  refine lv_istore_n (lv' := [(3, .int 0), (0, .ref h0), (1, .null), (2, .int 120)]) hx hb dX0_settle_1 rfl hl (by decide) rfl (fun ls hl => ?_)
  refine lv_iload_n hx hb dX0_settle_2 rfl (lv_at hl 0 rfl) ?_
  refine lv_aload_n hx hb dX0_settle_3 rfl (lv_at hl 1 rfl) ?_
  refine va_get (D := (dC, dI)) (ci := 2) (v := .ref h4) (C := RX0) (T := TX0) (N := 4) hx hb hts in_X0 hown hK hP 0 rfl rfl 3 (by decide) (hts _ q_28) (fun _ h9 => h9) rfl dX0_settle_4 ?_
  have hF1 := va_free (wc := [(h4, .inr (0, [.int 0, .ref z.1, .int 0]))]) hD hS hA [4] rfl
  refine va_calli (va_runV (As := []) (rest := [.int 0]) ⟨hx, hb, hml, hown, hts⟩ (k9_size l hl9 dC dI z h4 s.heap.size 0 0) (cwV 0 hts (gV q_79 q_63 q_64 q_9 q_61) rfl rfl rfl (by decide +kernel) ⟨Nat.le_of_ble_eq_true rfl, Nat.le_of_ble_eq_true rfl⟩) ⟨pc_blind, va_recv hK hP (ci := 0) (q0 := 4) rfl rfl, fun U hU hW => ⟨rfl, pc_mk hP hD hK hS hX hT [4] [] rfl rfl rfl rfl hF1 hU hW⟩⟩ rfl rfl hl.1 rfl (lv_room (Nat.le_of_ble_eq_true rfl)) dX0_settle_7 ⟨(Nat.le_of_ble_eq_true rfl), (Nat.le_of_ble_eq_true rfl)⟩) hS (fun q9 _ h9 => hF1 q9 h9) hF1 (fun r4 u3 t3 H3 L3 ht3 hvm3 hw3 hB3 hz3 hk3 hS => ?_)
  obtain ⟨hP, hD, hK⟩ := pq_join (wr := [(h0, .inr (2, [.ref h1, .ref h2, .ref h3, .ref h4])), (h1, .inr (0, [.int 0, .ref z.1, .int 0])), (h2, .inr (0, [.int 0, .ref z.1, .int 0])), (h3, .inr (0, [.int 0, .ref z.1, .int 0]))]) (tr := []) (wz := [(h0, .inr (2, [.ref h1, .ref h2, .ref h3, .ref h4])), (h1, .inr (0, [.int 0, .ref z.1, .int 0])), (h2, .inr (0, [.int 0, .ref z.1, .int 0])), (h3, .inr (0, [.int 0, .ref z.1, .int 0])), (h4, .inr (0, [.int 0, .ref z.1, .int 0]))]) (tz := []) hP hD hK [4] [0, 1, 2, 3] [] rfl rfl (by decide) (by decide) rfl hk3 hF1 hB3 ht3 hvm3 rfl rfl
  refine W.eq (g2 := F0 m 10 ls [.int 0, .int 0]) (by rw [hw3]) ?_
  refine lv_icmp_ge (tgt := 65) hx hb dX0_settle_10 (by decide) (fun _ => ?_) (fun cz => absurd (by decide) cz)
  exact W.vret hx hb hr (fun t9 ht9 hW9 => ⟨⟨(), rfl, trivial, pq_mk (wc := [(h0, .inr (2, [.ref h1, .ref h2, .ref h3, .ref h4])), (h1, .inr (0, [.int 0, .ref z.1, .int 0])), (h2, .inr (0, [.int 0, .ref z.1, .int 0])), (h3, .inr (0, [.int 0, .ref z.1, .int 0])), (h4, .inr (0, [.int 0, .ref z.1, .int 0]))]) (tc := []) hP hD hK [0, 1, 2, 3, 4] [] rfl rfl rfl rfl ht9 hW9⟩, hS.F ht9⟩) hS.2.2 dX0_settle_65
