set_option maxHeartbeats 4000000 in
set_option maxRecDepth 100000 in
theorem k261_slack (l : Launch) (hl9 : l.stackTraces = false) (dC : Nat → ClassId) (dI : Nat → Nat → Nat) (z : XZ) (h0 h1 h2 h3 h4 h5 h6 h7 h8 : Nat) (sz : Nat) (p0 p1 : Int32) (kc0 : ClassId) : vx_Met l yX6_slack (.code yX6_slack cX6_slack 4 (some .int) :: wsL_law) ({ frames := 8, cells := 1, slots := 6, locals := 121 }) (va_Pc [.ref h0, .int p0, .int p1] (PC (dC, dI) [(h0, .inr (6, [.ref h1, .ref h2, .ref h3])), (h1, .inr (2, [.ref h4, .ref h5, .ref h6, .ref h7])), (h2, .inr (5, [.ref h1, .int 0])), (h3, .inr (4, [.ref h1, .ref h8, .int 0])), (h4, .inr (0, [.int 0, .ref z.1, .int 0])), (h5, .inr (0, [.int 0, .ref z.1, .int 0])), (h6, .inr (0, [.int 0, .ref z.1, .int 0])), (h7, .inr (0, [.int 0, .ref z.1, .int 0])), (h8, .inl (kc0, 8, .inl (fun _ => 0)))] [(kc0, .int)] sz z)) (va_Qi (fun (_ : Int32) (_ : Unit) => False) (fun _ _ => True) (va_A [(h0, .inr (6, [.ref h1, .ref h2, .ref h3])), (h1, .inr (2, [.ref h4, .ref h5, .ref h6, .ref h7])), (h2, .inr (5, [.ref h1, .int 0])), (h3, .inr (4, [.ref h1, .ref h8, .int 0])), (h4, .inr (0, [.int 0, .ref z.1, .int 0])), (h5, .inr (0, [.int 0, .ref z.1, .int 0])), (h6, .inr (0, [.int 0, .ref z.1, .int 0])), (h7, .inr (0, [.int 0, .ref z.1, .int 0])), (h8, .inl (kc0, 8, .inl (fun _ => 0)))] sz)) (vx_X (fun (_ : Unit) => True) (fun (E : String) (_ : Unit) (_ : State) => E = "java/lang/IndexOutOfBoundsException") (va_A [(h0, .inr (6, [.ref h1, .ref h2, .ref h3])), (h1, .inr (2, [.ref h4, .ref h5, .ref h6, .ref h7])), (h2, .inr (5, [.ref h1, .int 0])), (h3, .inr (4, [.ref h1, .ref h8, .int 0])), (h4, .inr (0, [.int 0, .ref z.1, .int 0])), (h5, .inr (0, [.int 0, .ref z.1, .int 0])), (h6, .inr (0, [.int 0, .ref z.1, .int 0])), (h7, .inr (0, [.int 0, .ref z.1, .int 0])), (h8, .inl (kc0, 8, .inl (fun _ => 0)))] sz)) 1 6 (va_A [(h0, .inr (6, [.ref h1, .ref h2, .ref h3])), (h1, .inr (2, [.ref h4, .ref h5, .ref h6, .ref h7])), (h2, .inr (5, [.ref h1, .int 0])), (h3, .inr (4, [.ref h1, .ref h8, .int 0])), (h4, .inr (0, [.int 0, .ref z.1, .int 0])), (h5, .inr (0, [.int 0, .ref z.1, .int 0])), (h6, .inr (0, [.int 0, .ref z.1, .int 0])), (h7, .inr (0, [.int 0, .ref z.1, .int 0])), (h8, .inl (kc0, 8, .inl (fun _ => 0)))] sz) := by
  refine vx_ofW (cc := cX6_slack) (maxL := 4) (ret := (some .int)) (by decide) rfl ?_
  intro p e s m args below meth c s₁ B hml hnt hv
  obtain ⟨rfl, hsz, hP, hK, hD0, hX, hT⟩ := hv
  have hx := B.exec
  have hb := B.bytes
  have hr := B.returns
  have hts0 := atoms_spec (ws := .code yX6_slack cX6_slack 4 (some .int) :: wsL_law) B.pre
  have hts := xTail hts0
  have hown : s.vm.findClass RX6 = some m.cls := findClass_of_methodNamed B.named
  have hlocks := B.notSynchronized
  subst hsz
  have hD := hD0.self (sz := s.heap.size)
  generalize hAe : va_A [(h0, .inr (6, [.ref h1, .ref h2, .ref h3])), (h1, .inr (2, [.ref h4, .ref h5, .ref h6, .ref h7])), (h2, .inr (5, [.ref h1, .int 0])), (h3, .inr (4, [.ref h1, .ref h8, .int 0])), (h4, .inr (0, [.int 0, .ref z.1, .int 0])), (h5, .inr (0, [.int 0, .ref z.1, .int 0])), (h6, .inr (0, [.int 0, .ref z.1, .int 0])), (h7, .inr (0, [.int 0, .ref z.1, .int 0])), (h8, .inl (kc0, 8, .inl (fun _ => 0)))] s.heap.size = A at hD hX ⊢
  have hA : ∀ q : Nat, s.heap.size ≤ q → A q := fun q h => by rw [← hAe]; exact Or.inr h
  have hS : va_S A s.heap s.heap [] := va_S.rf
  have hl := lv_entry ([.ref h0, .int p0, .int p1]) (n := 4) (Nat.le_of_ble_eq_true rfl)
  rw [lg_entry_eq]
  generalize (lg_sl ([.ref h0, .int p0, .int p1]) ++ List.replicate (4 - (lg_sl ([.ref h0, .int p0, .int p1])).length) Slot.unset).toArray = ls at hl ⊢
  have hl : lv_has ls 4 [(0, .ref h0), (1, .int p0), (2, .int p1)] := hl
  refine lv_aload_n hx hb dX6_slack_0 rfl (lv_at hl 0 rfl) ?_
  refine lv_iload_n hx hb dX6_slack_1 rfl (lv_at hl 1 rfl) ?_
  have hF1 := va_free (wc := [(h0, .inr (6, [.ref h1, .ref h2, .ref h3])), (h1, .inr (2, [.ref h4, .ref h5, .ref h6, .ref h7])), (h2, .inr (5, [.ref h1, .int 0])), (h3, .inr (4, [.ref h1, .ref h8, .int 0])), (h4, .inr (0, [.int 0, .ref z.1, .int 0])), (h5, .inr (0, [.int 0, .ref z.1, .int 0])), (h6, .inr (0, [.int 0, .ref z.1, .int 0])), (h7, .inr (0, [.int 0, .ref z.1, .int 0])), (h8, .inl (kc0, 8, .inl (fun _ => 0)))]) hD hS hA [0, 1, 2, 3, 4, 5, 6, 7, 8] rfl
  refine vx_callq (SX := Unit) (vx_runV (As := [.int p0]) (rest := []) ⟨hx, hb, hml, hown, hts⟩ (k89_netAt l hl9 dC dI z h0 h1 h2 h3 h4 h5 h6 h7 h8 s.heap.size p0 kc0) (cwV 1 hts (gV q_346 q_347 q_348 q_69 q_345) rfl rfl rfl (by decide +kernel) ⟨Nat.le_of_ble_eq_true rfl, Nat.le_of_ble_eq_true rfl⟩) ⟨pc_blind, va_recv hK hP (ci := 6) (q0 := 0) rfl rfl, fun U hU hW => ⟨rfl, pc_mk hP hD hK hS hX hT [0, 1, 2, 3, 4, 5, 6, 7, 8] [0] rfl rfl rfl rfl hF1 hU hW⟩⟩ rfl rfl hl.1 rfl (lv_room (Nat.le_of_ble_eq_true rfl)) dX6_slack_2 ⟨(Nat.le_of_ble_eq_true rfl), (Nat.le_of_ble_eq_true rfl)⟩) hS (fun q9 _ h9 => hF1 q9 h9) hF1 (fun q9 _ h9 => hF1 q9 h9) (fun E3 ce3 x3 v3 t3 H3 L3 ht3 hvm3 hw3 hB3 hz3 hk3 hS hc3 hn3 hf3 => ?_) (fun _ _ _ _ _ _ _ hw9 _ _ _ _ => hw9.elim)
  obtain ⟨hP, hD⟩ := pq_rest (wr := []) hP hD [0, 1, 2, 3, 4, 5, 6, 7, 8] [] rfl rfl (by decide) (by decide) hk3 hF1
  exact vx_out (fun x9 hx9 => (hnt x9 hx9).elim) hlocks hc3 hn3 hf3 (fun t9 ht9 hv9 => ⟨(), trivial, hB3, hS.F ht9⟩) hS.2.2 (by decide) (by decide)

set_option maxHeartbeats 4000000 in
set_option maxRecDepth 100000 in
theorem k262_slack (l : Launch) (hl9 : l.stackTraces = false) (dC : Nat → ClassId) (dI : Nat → Nat → Nat) (z : XZ) (h0 h1 h2 h3 h4 h5 h6 h7 h8 h9 : Nat) (sz : Nat) (p0 p1 : Int32) (kc0 kc1 : ClassId) : Met l yL_slack (.codeWith yL_slack cL_slack 5 (some .int) [(0, 10, 13, 23), (0, 10, 17, 21)] :: wsL_law) ({ frames := 9, cells := 1, slots := 6, locals := 144 }) (va_Pc [.ref h0, .int p0, .int p1, .ref h1] (PC (dC, dI) [(h0, .inr (6, [.ref h2, .ref h3, .ref h4])), (h1, .inl (kc0, 1, .inr (.inl (fun _ => 0)))), (h2, .inr (2, [.ref h5, .ref h6, .ref h7, .ref h8])), (h3, .inr (5, [.ref h2, .int 0])), (h4, .inr (4, [.ref h2, .ref h9, .int 0])), (h5, .inr (0, [.int 0, .ref z.1, .int 0])), (h6, .inr (0, [.int 0, .ref z.1, .int 0])), (h7, .inr (0, [.int 0, .ref z.1, .int 0])), (h8, .inr (0, [.int 0, .ref z.1, .int 0])), (h9, .inl (kc1, 8, .inl (fun _ => 0)))] [(kc0, .long), (kc1, .int)] sz z)) (va_Qi (fun (r : Int32) (_ : Unit) => r = 1) (fun (_ : Unit) (t : State) => PQ (dC, dI) [(h1, .inl (kc0, 1, .inr (.inl (fun _ => 0))))] [(kc0, .long)] (va_A [(h0, .inr (6, [.ref h2, .ref h3, .ref h4])), (h1, .inl (kc0, 1, .inr (.inl (fun _ => 0)))), (h2, .inr (2, [.ref h5, .ref h6, .ref h7, .ref h8])), (h3, .inr (5, [.ref h2, .int 0])), (h4, .inr (4, [.ref h2, .ref h9, .int 0])), (h5, .inr (0, [.int 0, .ref z.1, .int 0])), (h6, .inr (0, [.int 0, .ref z.1, .int 0])), (h7, .inr (0, [.int 0, .ref z.1, .int 0])), (h8, .inr (0, [.int 0, .ref z.1, .int 0])), (h9, .inl (kc1, 8, .inl (fun _ => 0)))] sz) t) (va_A [(h0, .inr (6, [.ref h2, .ref h3, .ref h4])), (h1, .inl (kc0, 1, .inr (.inl (fun _ => 0)))), (h2, .inr (2, [.ref h5, .ref h6, .ref h7, .ref h8])), (h3, .inr (5, [.ref h2, .int 0])), (h4, .inr (4, [.ref h2, .ref h9, .int 0])), (h5, .inr (0, [.int 0, .ref z.1, .int 0])), (h6, .inr (0, [.int 0, .ref z.1, .int 0])), (h7, .inr (0, [.int 0, .ref z.1, .int 0])), (h8, .inr (0, [.int 0, .ref z.1, .int 0])), (h9, .inl (kc1, 8, .inl (fun _ => 0)))] sz)) 1 6 (va_A [(h0, .inr (6, [.ref h2, .ref h3, .ref h4])), (h1, .inl (kc0, 1, .inr (.inl (fun _ => 0)))), (h2, .inr (2, [.ref h5, .ref h6, .ref h7, .ref h8])), (h3, .inr (5, [.ref h2, .int 0])), (h4, .inr (4, [.ref h2, .ref h9, .int 0])), (h5, .inr (0, [.int 0, .ref z.1, .int 0])), (h6, .inr (0, [.int 0, .ref z.1, .int 0])), (h7, .inr (0, [.int 0, .ref z.1, .int 0])), (h8, .inr (0, [.int 0, .ref z.1, .int 0])), (h9, .inl (kc1, 8, .inl (fun _ => 0)))] sz) := by
  refine va_MetW (cc := cL_slack) (maxL := 5) (ret := (some .int)) (hh := [(0, 10, 13, 23), (0, 10, 17, 21)]) (by decide) rfl ?_
  intro p e s m args below meth c s₁ B hml hv
  obtain ⟨rfl, hsz, hP, hK, hD0, hX, hT⟩ := hv
  have hx := B.exec
  have hb := B.bytes
  have hr := B.returns
  have hts0 := atoms_spec (ws := .codeWith yL_slack cL_slack 5 (some .int) [(0, 10, 13, 23), (0, 10, 17, 21)] :: wsL_law) B.pre
  have htab := vx_table (x := yL_slack) B (hts0 _ List.mem_cons_self)
  have hts := xTail hts0
  have hown : s.vm.findClass RL = some m.cls := findClass_of_methodNamed B.named
  have hlocks := B.notSynchronized
  subst hsz
  have hD := hD0.self (sz := s.heap.size)
  generalize hAe : va_A [(h0, .inr (6, [.ref h2, .ref h3, .ref h4])), (h1, .inl (kc0, 1, .inr (.inl (fun _ => 0)))), (h2, .inr (2, [.ref h5, .ref h6, .ref h7, .ref h8])), (h3, .inr (5, [.ref h2, .int 0])), (h4, .inr (4, [.ref h2, .ref h9, .int 0])), (h5, .inr (0, [.int 0, .ref z.1, .int 0])), (h6, .inr (0, [.int 0, .ref z.1, .int 0])), (h7, .inr (0, [.int 0, .ref z.1, .int 0])), (h8, .inr (0, [.int 0, .ref z.1, .int 0])), (h9, .inl (kc1, 8, .inl (fun _ => 0)))] s.heap.size = A at hD hX ⊢
  have hA : ∀ q : Nat, s.heap.size ≤ q → A q := fun q h => by rw [← hAe]; exact Or.inr h
  have hS : va_S A s.heap s.heap [] := va_S.rf
  have hl := lv_entry ([.ref h0, .int p0, .int p1, .ref h1]) (n := 5) (Nat.le_of_ble_eq_true rfl)
  rw [lg_entry_eq]
  generalize (lg_sl ([.ref h0, .int p0, .int p1, .ref h1]) ++ List.replicate (5 - (lg_sl ([.ref h0, .int p0, .int p1, .ref h1])).length) Slot.unset).toArray = ls at hl ⊢
  have hl : lv_has ls 5 [(0, .ref h0), (1, .int p0), (2, .int p1), (3, .ref h1)] := hl
  refine lv_aload_n hx hb dL_slack_0 rfl (lv_at hl 3 rfl) ?_
  refine lv_iconst (v := 0) hx hb dL_slack_1 (by decide) ?_
  refine lv_aload_n hx hb dL_slack_2 rfl (lv_at hl 0 rfl) ?_
  refine lv_iload_n hx hb dL_slack_3 rfl (lv_at hl 1 rfl) ?_
  refine lv_iload_n hx hb dL_slack_4 rfl (lv_at hl 2 rfl) ?_
  have hF1 := va_free (wc := [(h0, .inr (6, [.ref h2, .ref h3, .ref h4])), (h2, .inr (2, [.ref h5, .ref h6, .ref h7, .ref h8])), (h3, .inr (5, [.ref h2, .int 0])), (h4, .inr (4, [.ref h2, .ref h9, .int 0])), (h5, .inr (0, [.int 0, .ref z.1, .int 0])), (h6, .inr (0, [.int 0, .ref z.1, .int 0])), (h7, .inr (0, [.int 0, .ref z.1, .int 0])), (h8, .inr (0, [.int 0, .ref z.1, .int 0])), (h9, .inl (kc1, 8, .inl (fun _ => 0)))]) hD hS hA [0, 2, 3, 4, 5, 6, 7, 8, 9] rfl
  refine vx_calli (SX := Unit) (vx_runV (As := [.int p0, .int p1]) (rest := [.int 0, .ref h1]) ⟨hx, hb, hml, hown, hts⟩ (k261_slack l hl9 dC dI z h0 h2 h3 h4 h5 h6 h7 h8 h9 s.heap.size p0 p1 kc1) (cwV 2 hts (gV q_583 q_584 q_585 q_69 q_582) rfl rfl rfl (by decide +kernel) ⟨Nat.le_of_ble_eq_true rfl, Nat.le_of_ble_eq_true rfl⟩) ⟨pc_blind, va_recv hK hP (ci := 6) (q0 := 0) rfl rfl, fun U hU hW => ⟨rfl, pc_mk hP hD hK hS hX hT [0, 2, 3, 4, 5, 6, 7, 8, 9] [1] rfl rfl rfl rfl hF1 hU hW⟩⟩ rfl rfl hl.1 rfl (lv_room (Nat.le_of_ble_eq_true rfl)) dL_slack_5 ⟨(Nat.le_of_ble_eq_true rfl), (Nat.le_of_ble_eq_true rfl)⟩) hS (fun q9 _ h9 => hF1 q9 h9) hF1 (fun q9 _ h9 => hF1 q9 h9) (fun E3 ce3 x3 v3 t3 H3 L3 ht3 hvm3 hw3 hB3 hz3 hk3 hS hc3 hn3 hf3 => ?_) (fun _ _ _ _ _ _ _ hw9 _ _ _ _ => hw9.elim)
  obtain ⟨hP, hD⟩ := pq_rest (wr := [(h1, .inl (kc0, 1, .inr (.inl (fun _ => 0))))]) hP hD [0, 2, 3, 4, 5, 6, 7, 8, 9] [1] rfl rfl (by decide) (by decide) hk3 hF1
  subst hB3
  refine vx_catch (own := RL) (name := "java/lang/IndexOutOfBoundsException") hown [] ⟨0, 10, 13, 23⟩ [⟨0, 10, 17, 21⟩] htab (fun z9 hz9 => absurd hz9 List.not_mem_nil) (by decide) (by decide) (hts _ q_354) (va_Nw.use rfl (hT.2.1.1 ("java/lang/IndexOutOfBoundsException", "java/lang/IndexOutOfBoundsException") (by decide))) hc3 hn3 hf3 ?_
  refine lv_astore (lv' := [(4, .ref x3), (0, .ref h0), (1, .int p0), (2, .int p1), (3, .ref h1)]) hx hb dL_slack_13 hl (by decide) rfl (fun ls hl => ?_)
  refine lv_iconst (v := 1) hx hb dL_slack_15 (by decide) ?_
  exact W.iret (v := 1) hx hb hr (fun t9 ht9 hW9 => ⟨⟨1, (), rfl, rfl, pq_mk (wc := [(h1, .inl (kc0, 1, .inr (.inl (fun _ => 0))))]) (tc := [(kc0, .long)]) hP hD hK [0] [0] rfl rfl rfl rfl ht9 hW9⟩, hS.F ht9⟩) hS.2.2 dL_slack_16

set_option maxHeartbeats 4000000 in
set_option maxRecDepth 100000 in
theorem k263_slack (l : Launch) (hl9 : l.stackTraces = false) (dC : Nat → ClassId) (dI : Nat → Nat → Nat) (z : XZ) (h0 h1 h2 h3 h4 : Nat) (sz : Nat) (p0 p1 : Int32) : Met l yX9_slack (.code yX9_slack cX9_slack 3 (some .int) :: wsL_law) ({ frames := 2, cells := 0, slots := 0, locals := 43 }) (va_Pc [.ref h0, .int p0, .int p1] (PC (dC, dI) [(h0, .inr (8, [.int 0, .ref h1, .ref h2, .ref h3, .ref h4, .int 0])), (h1, .inr (0, [.int 0, .ref z.1, .int 0])), (h2, .inr (0, [.int 0, .ref z.1, .int 0])), (h3, .inr (0, [.int 0, .ref z.1, .int 0])), (h4, .inr (0, [.int 0, .ref z.1, .int 0]))] [] sz z)) (va_Qi (fun (r : Int32) (_ : Unit) => r = 0) (fun (_ : Unit) (t : State) => PQ (dC, dI) [(h0, .inr (8, [.int 1, .ref h1, .ref h2, .ref h3, .ref h4, .int 0])), (h1, .inr (0, [.int 0, .ref z.1, .int 0])), (h2, .inr (0, [.int 0, .ref z.1, .int 0])), (h3, .inr (0, [.int 0, .ref z.1, .int 0])), (h4, .inr (0, [.int 0, .ref z.1, .int 0]))] [] (va_A [(h0, .inr (8, [.int 0, .ref h1, .ref h2, .ref h3, .ref h4, .int 0])), (h1, .inr (0, [.int 0, .ref z.1, .int 0])), (h2, .inr (0, [.int 0, .ref z.1, .int 0])), (h3, .inr (0, [.int 0, .ref z.1, .int 0])), (h4, .inr (0, [.int 0, .ref z.1, .int 0]))] sz) t) (va_A [(h0, .inr (8, [.int 0, .ref h1, .ref h2, .ref h3, .ref h4, .int 0])), (h1, .inr (0, [.int 0, .ref z.1, .int 0])), (h2, .inr (0, [.int 0, .ref z.1, .int 0])), (h3, .inr (0, [.int 0, .ref z.1, .int 0])), (h4, .inr (0, [.int 0, .ref z.1, .int 0]))] sz)) 0 0 (va_A [(h0, .inr (8, [.int 0, .ref h1, .ref h2, .ref h3, .ref h4, .int 0])), (h1, .inr (0, [.int 0, .ref z.1, .int 0])), (h2, .inr (0, [.int 0, .ref z.1, .int 0])), (h3, .inr (0, [.int 0, .ref z.1, .int 0])), (h4, .inr (0, [.int 0, .ref z.1, .int 0]))] sz) := by
  refine Met.ofW (cc := cX9_slack) (maxL := 3) (ret := (some .int)) (by decide) rfl ?_
  intro p e s m args below meth c s₁ B hml hv
  obtain ⟨rfl, hsz, hP, hK, hD0, hX, hT⟩ := hv
  have hx := B.exec
  have hb := B.bytes
  have hr := B.returns
  have hts0 := atoms_spec (ws := .code yX9_slack cX9_slack 3 (some .int) :: wsL_law) B.pre
  have hts := xTail hts0
  have hown : s.vm.findClass RX9 = some m.cls := findClass_of_methodNamed B.named
  have hlocks := B.notSynchronized
  subst hsz
  have hD := hD0.self (sz := s.heap.size)
  generalize hAe : va_A [(h0, .inr (8, [.int 0, .ref h1, .ref h2, .ref h3, .ref h4, .int 0])), (h1, .inr (0, [.int 0, .ref z.1, .int 0])), (h2, .inr (0, [.int 0, .ref z.1, .int 0])), (h3, .inr (0, [.int 0, .ref z.1, .int 0])), (h4, .inr (0, [.int 0, .ref z.1, .int 0]))] s.heap.size = A at hD hX ⊢
  have hA : ∀ q : Nat, s.heap.size ≤ q → A q := fun q h => by rw [← hAe]; exact Or.inr h
  have hS : va_S A s.heap s.heap [] := va_S.rf
  have hl := lv_entry ([.ref h0, .int p0, .int p1]) (n := 3) (Nat.le_of_ble_eq_true rfl)
  rw [lg_entry_eq]
  generalize (lg_sl ([.ref h0, .int p0, .int p1]) ++ List.replicate (3 - (lg_sl ([.ref h0, .int p0, .int p1])).length) Slot.unset).toArray = ls at hl ⊢
  have hl : lv_has ls 3 [(0, .ref h0), (1, .int p0), (2, .int p1)] := hl
  refine lv_aload_n hx hb dX9_slack_0 rfl (lv_at hl 0 rfl) ?_
  refine lv_iconst (v := 0) hx hb dX9_slack_1 (by decide) ?_
  refine va_put (D := (dC, dI)) (ci := 8) (v := .int 0) (ty := .int) (C := RX9) (T := TX9) (N := 6) hx hb hts in_X9 tyX9 tyX9_ok nmX9 hown hK hP hD hS 0 rfl rfl 0 (by decide) (hts _ q_230) (fun _ h9 => h9) rfl (by decide +kernel) rfl rfl (Nat.le_of_ble_eq_true rfl) dX9_slack_2 (fun H1 _ hP hD hS => ?_)
  have hP : va_P (dC, dI) xCl [(h0, .inr (8, [.int 0, .ref h1, .ref h2, .ref h3, .ref h4, .int 0])), (h1, .inr (0, [.int 0, .ref z.1, .int 0])), (h2, .inr (0, [.int 0, .ref z.1, .int 0])), (h3, .inr (0, [.int 0, .ref z.1, .int 0])), (h4, .inr (0, [.int 0, .ref z.1, .int 0]))] H1 := hP
  have hD : va_D A [(h0, .inr (8, [.int 0, .ref h1, .ref h2, .ref h3, .ref h4, .int 0])), (h1, .inr (0, [.int 0, .ref z.1, .int 0])), (h2, .inr (0, [.int 0, .ref z.1, .int 0])), (h3, .inr (0, [.int 0, .ref z.1, .int 0])), (h4, .inr (0, [.int 0, .ref z.1, .int 0]))] := hD
  refine lv_aload_n hx hb dX9_slack_5 rfl (lv_at hl 0 rfl) ?_
  refine lv_aload_n hx hb dX9_slack_6 rfl (lv_at hl 0 rfl) ?_
  refine lv_iload_n hx hb dX9_slack_7 rfl (lv_at hl 1 rfl) ?_
  have hF2 := va_free (wc := [(h0, .inr (8, [.int 0, .ref h1, .ref h2, .ref h3, .ref h4, .int 0])), (h1, .inr (0, [.int 0, .ref z.1, .int 0])), (h2, .inr (0, [.int 0, .ref z.1, .int 0])), (h3, .inr (0, [.int 0, .ref z.1, .int 0])), (h4, .inr (0, [.int 0, .ref z.1, .int 0]))]) hD hS hA [0, 1, 2, 3, 4] rfl
  refine va_calli (va_runV (As := [.int p0]) (rest := [.ref h0]) ⟨hx, hb, hml, hown, hts⟩ (k95_no l hl9 dC dI z h0 h1 h2 h3 h4 H1.size p0) (cwV 1 hts (gV q_362 q_363 q_364 q_255 q_361) rfl rfl rfl (by decide +kernel) ⟨Nat.le_of_ble_eq_true rfl, Nat.le_of_ble_eq_true rfl⟩) ⟨pc_blind, va_recv hK hP (ci := 8) (q0 := 0) rfl rfl, fun U hU hW => ⟨rfl, pc_mk hP hD hK hS hX hT [0, 1, 2, 3, 4] [] rfl rfl rfl rfl hF2 hU hW⟩⟩ rfl rfl hl.1 rfl (lv_room (Nat.le_of_ble_eq_true rfl)) dX9_slack_8 ⟨(Nat.le_of_ble_eq_true rfl), (Nat.le_of_ble_eq_true rfl)⟩) hS (fun q9 _ h9 => hF2 q9 h9) hF2 (fun r5 u4 t4 H4 L4 ht4 hvm4 hw4 hB4 hz4 hk4 hS => ?_)
  obtain ⟨hP, hD, hK⟩ := pq_join (wr := []) (tr := []) (wz := [(h0, .inr (8, [.int 0, .ref h1, .ref h2, .ref h3, .ref h4, .int 0])), (h1, .inr (0, [.int 0, .ref z.1, .int 0])), (h2, .inr (0, [.int 0, .ref z.1, .int 0])), (h3, .inr (0, [.int 0, .ref z.1, .int 0])), (h4, .inr (0, [.int 0, .ref z.1, .int 0]))]) (tz := []) hP hD hK [0, 1, 2, 3, 4] [] [] rfl rfl (by decide) (by decide) rfl hk4 hF2 hB4 ht4 hvm4 rfl rfl
  refine W.eq (g2 := F0 m 11 ls [.int 1, .ref h0]) (by rw [hw4]) ?_
  refine lv_iconst (v := 1) hx hb dX9_slack_11 (by decide) ?_
  have hF6 := va_free (wc := [(h0, .inr (8, [.int 0, .ref h1, .ref h2, .ref h3, .ref h4, .int 0])), (h1, .inr (0, [.int 0, .ref z.1, .int 0])), (h2, .inr (0, [.int 0, .ref z.1, .int 0])), (h3, .inr (0, [.int 0, .ref z.1, .int 0])), (h4, .inr (0, [.int 0, .ref z.1, .int 0]))]) hD hS hA [0, 1, 2, 3, 4] rfl
  refine va_calli (va_runV (As := [.int 1, .int 1]) (rest := []) ⟨hx, hb, hml, hown, hts⟩ (k93_fails l hl9 dC dI z h0 h1 h2 h3 h4 H4.size) (cwV 2 hts (gV q_257 q_258 q_259 q_255 q_256) rfl rfl rfl (by decide +kernel) ⟨Nat.le_of_ble_eq_true rfl, Nat.le_of_ble_eq_true rfl⟩) ⟨pc_blind, va_recv hK hP (ci := 8) (q0 := 0) rfl rfl, fun U hU hW => ⟨rfl, pc_mk hP hD hK hS hX hT [0, 1, 2, 3, 4] [] rfl rfl rfl rfl hF6 hU hW⟩⟩ rfl rfl hl.1 rfl (lv_room (Nat.le_of_ble_eq_true rfl)) dX9_slack_12 ⟨(Nat.le_of_ble_eq_true rfl), (Nat.le_of_ble_eq_true rfl)⟩) hS (fun q9 _ h9 => hF6 q9 h9) hF6 (fun r9 u8 t8 H8 L8 ht8 hvm8 hw8 hB8 hz8 hk8 hS => ?_)
  obtain ⟨hP, hD, hK⟩ := pq_join (wr := []) (tr := []) (wz := [(h0, .inr (8, [.int 1, .ref h1, .ref h2, .ref h3, .ref h4, .int 0])), (h1, .inr (0, [.int 0, .ref z.1, .int 0])), (h2, .inr (0, [.int 0, .ref z.1, .int 0])), (h3, .inr (0, [.int 0, .ref z.1, .int 0])), (h4, .inr (0, [.int 0, .ref z.1, .int 0]))]) (tz := []) hP hD hK [0, 1, 2, 3, 4] [] [] rfl rfl (by decide) (by decide) rfl hk8 hF6 hB8 ht8 hvm8 rfl rfl
  refine W.eq (g2 := F0 m 15 ls [.int 1]) (by rw [hw8]) ?_
  refine lv_if_ne (tgt := 41) hx hb dX9_slack_15 (by decide) (fun _ => ?_) (fun cz => absurd cz (by decide))
  refine lv_iconst (v := 0) hx hb dX9_slack_41 (by decide) ?_
  refine lv_goto (tgt := 60) hx hb dX9_slack_42 (by decide) ?_
  exact W.iret (v := 0) hx hb hr (fun t9 ht9 hW9 => ⟨⟨0, (), rfl, rfl, pq_mk (wc := [(h0, .inr (8, [.int 1, .ref h1, .ref h2, .ref h3, .ref h4, .int 0])), (h1, .inr (0, [.int 0, .ref z.1, .int 0])), (h2, .inr (0, [.int 0, .ref z.1, .int 0])), (h3, .inr (0, [.int 0, .ref z.1, .int 0])), (h4, .inr (0, [.int 0, .ref z.1, .int 0]))]) (tc := []) hP hD hK [0, 1, 2, 3, 4] [] rfl rfl rfl rfl ht9 hW9⟩, hS.F ht9⟩) hS.2.2 dX9_slack_60

set_option maxHeartbeats 4000000 in
set_option maxRecDepth 100000 in
theorem k264_stands (l : Launch) (hl9 : l.stackTraces = false) (dC : Nat → ClassId) (dI : Nat → Nat → Nat) (z : XZ) (h0 h1 h2 h3 h4 h5 h6 h7 h8 : Nat) (sz : Nat) (p0 : Int32) (kc0 : ClassId) : vx_Met l yX6_stands (.code yX6_stands cX6_stands 2 (some .int) :: wsL_law) ({ frames := 8, cells := 1, slots := 6, locals := 121 }) (va_Pc [.ref h0, .int p0] (PC (dC, dI) [(h0, .inr (6, [.ref h1, .ref h2, .ref h3])), (h1, .inr (2, [.ref h4, .ref h5, .ref h6, .ref h7])), (h2, .inr (5, [.ref h1, .int 0])), (h3, .inr (4, [.ref h1, .ref h8, .int 0])), (h4, .inr (0, [.int 0, .ref z.1, .int 0])), (h5, .inr (0, [.int 0, .ref z.1, .int 0])), (h6, .inr (0, [.int 0, .ref z.1, .int 0])), (h7, .inr (0, [.int 0, .ref z.1, .int 0])), (h8, .inl (kc0, 8, .inl (fun _ => 0)))] [(kc0, .int)] sz z)) (va_Qi (fun (_ : Int32) (_ : Unit) => False) (fun _ _ => True) (va_A [(h0, .inr (6, [.ref h1, .ref h2, .ref h3])), (h1, .inr (2, [.ref h4, .ref h5, .ref h6, .ref h7])), (h2, .inr (5, [.ref h1, .int 0])), (h3, .inr (4, [.ref h1, .ref h8, .int 0])), (h4, .inr (0, [.int 0, .ref z.1, .int 0])), (h5, .inr (0, [.int 0, .ref z.1, .int 0])), (h6, .inr (0, [.int 0, .ref z.1, .int 0])), (h7, .inr (0, [.int 0, .ref z.1, .int 0])), (h8, .inl (kc0, 8, .inl (fun _ => 0)))] sz)) (vx_X (fun (_ : Unit) => True) (fun (E : String) (_ : Unit) (_ : State) => E = "java/lang/IndexOutOfBoundsException") (va_A [(h0, .inr (6, [.ref h1, .ref h2, .ref h3])), (h1, .inr (2, [.ref h4, .ref h5, .ref h6, .ref h7])), (h2, .inr (5, [.ref h1, .int 0])), (h3, .inr (4, [.ref h1, .ref h8, .int 0])), (h4, .inr (0, [.int 0, .ref z.1, .int 0])), (h5, .inr (0, [.int 0, .ref z.1, .int 0])), (h6, .inr (0, [.int 0, .ref z.1, .int 0])), (h7, .inr (0, [.int 0, .ref z.1, .int 0])), (h8, .inl (kc0, 8, .inl (fun _ => 0)))] sz)) 1 6 (va_A [(h0, .inr (6, [.ref h1, .ref h2, .ref h3])), (h1, .inr (2, [.ref h4, .ref h5, .ref h6, .ref h7])), (h2, .inr (5, [.ref h1, .int 0])), (h3, .inr (4, [.ref h1, .ref h8, .int 0])), (h4, .inr (0, [.int 0, .ref z.1, .int 0])), (h5, .inr (0, [.int 0, .ref z.1, .int 0])), (h6, .inr (0, [.int 0, .ref z.1, .int 0])), (h7, .inr (0, [.int 0, .ref z.1, .int 0])), (h8, .inl (kc0, 8, .inl (fun _ => 0)))] sz) := by
  refine vx_ofW (cc := cX6_stands) (maxL := 2) (ret := (some .int)) (by decide) rfl ?_
  intro p e s m args below meth c s₁ B hml hnt hv
  obtain ⟨rfl, hsz, hP, hK, hD0, hX, hT⟩ := hv
  have hx := B.exec
  have hb := B.bytes
  have hr := B.returns
  have hts0 := atoms_spec (ws := .code yX6_stands cX6_stands 2 (some .int) :: wsL_law) B.pre
  have hts := xTail hts0
  have hown : s.vm.findClass RX6 = some m.cls := findClass_of_methodNamed B.named
  have hlocks := B.notSynchronized
  subst hsz
  have hD := hD0.self (sz := s.heap.size)
  generalize hAe : va_A [(h0, .inr (6, [.ref h1, .ref h2, .ref h3])), (h1, .inr (2, [.ref h4, .ref h5, .ref h6, .ref h7])), (h2, .inr (5, [.ref h1, .int 0])), (h3, .inr (4, [.ref h1, .ref h8, .int 0])), (h4, .inr (0, [.int 0, .ref z.1, .int 0])), (h5, .inr (0, [.int 0, .ref z.1, .int 0])), (h6, .inr (0, [.int 0, .ref z.1, .int 0])), (h7, .inr (0, [.int 0, .ref z.1, .int 0])), (h8, .inl (kc0, 8, .inl (fun _ => 0)))] s.heap.size = A at hD hX ⊢
  have hA : ∀ q : Nat, s.heap.size ≤ q → A q := fun q h => by rw [← hAe]; exact Or.inr h
  have hS : va_S A s.heap s.heap [] := va_S.rf
  have hl := lv_entry ([.ref h0, .int p0]) (n := 2) (Nat.le_of_ble_eq_true rfl)
  rw [lg_entry_eq]
  generalize (lg_sl ([.ref h0, .int p0]) ++ List.replicate (2 - (lg_sl ([.ref h0, .int p0])).length) Slot.unset).toArray = ls at hl ⊢
  have hl : lv_has ls 2 [(0, .ref h0), (1, .int p0)] := hl
  refine lv_aload_n hx hb dX6_stands_0 rfl (lv_at hl 0 rfl) ?_
  refine lv_iload_n hx hb dX6_stands_1 rfl (lv_at hl 1 rfl) ?_
  have hF1 := va_free (wc := [(h0, .inr (6, [.ref h1, .ref h2, .ref h3])), (h1, .inr (2, [.ref h4, .ref h5, .ref h6, .ref h7])), (h2, .inr (5, [.ref h1, .int 0])), (h3, .inr (4, [.ref h1, .ref h8, .int 0])), (h4, .inr (0, [.int 0, .ref z.1, .int 0])), (h5, .inr (0, [.int 0, .ref z.1, .int 0])), (h6, .inr (0, [.int 0, .ref z.1, .int 0])), (h7, .inr (0, [.int 0, .ref z.1, .int 0])), (h8, .inl (kc0, 8, .inl (fun _ => 0)))]) hD hS hA [0, 1, 2, 3, 4, 5, 6, 7, 8] rfl
  refine vx_callq (SX := Unit) (vx_runV (As := [.int p0]) (rest := []) ⟨hx, hb, hml, hown, hts⟩ (k89_netAt l hl9 dC dI z h0 h1 h2 h3 h4 h5 h6 h7 h8 s.heap.size p0 kc0) (cwV 1 hts (gV q_346 q_347 q_348 q_69 q_345) rfl rfl rfl (by decide +kernel) ⟨Nat.le_of_ble_eq_true rfl, Nat.le_of_ble_eq_true rfl⟩) ⟨pc_blind, va_recv hK hP (ci := 6) (q0 := 0) rfl rfl, fun U hU hW => ⟨rfl, pc_mk hP hD hK hS hX hT [0, 1, 2, 3, 4, 5, 6, 7, 8] [0] rfl rfl rfl rfl hF1 hU hW⟩⟩ rfl rfl hl.1 rfl (lv_room (Nat.le_of_ble_eq_true rfl)) dX6_stands_2 ⟨(Nat.le_of_ble_eq_true rfl), (Nat.le_of_ble_eq_true rfl)⟩) hS (fun q9 _ h9 => hF1 q9 h9) hF1 (fun q9 _ h9 => hF1 q9 h9) (fun E3 ce3 x3 v3 t3 H3 L3 ht3 hvm3 hw3 hB3 hz3 hk3 hS hc3 hn3 hf3 => ?_) (fun _ _ _ _ _ _ _ hw9 _ _ _ _ => hw9.elim)
  obtain ⟨hP, hD⟩ := pq_rest (wr := []) hP hD [0, 1, 2, 3, 4, 5, 6, 7, 8] [] rfl rfl (by decide) (by decide) hk3 hF1
  exact vx_out (fun x9 hx9 => (hnt x9 hx9).elim) hlocks hc3 hn3 hf3 (fun t9 ht9 hv9 => ⟨(), trivial, hB3, hS.F ht9⟩) hS.2.2 (by decide) (by decide)

set_option maxHeartbeats 4000000 in
set_option maxRecDepth 100000 in
theorem k265_stands (l : Launch) (hl9 : l.stackTraces = false) (dC : Nat → ClassId) (dI : Nat → Nat → Nat) (z : XZ) (h0 h1 h2 h3 h4 h5 h6 h7 h8 h9 : Nat) (sz : Nat) (p0 : Int32) (kc0 kc1 : ClassId) : Met l yL_stands (.codeWith yL_stands cL_stands 4 (some .int) [(0, 9, 12, 23)] :: wsL_law) ({ frames := 9, cells := 1, slots := 6, locals := 142 }) (va_Pc [.ref h0, .int p0, .ref h1] (PC (dC, dI) [(h0, .inr (6, [.ref h2, .ref h3, .ref h4])), (h1, .inl (kc0, 1, .inr (.inl (fun _ => 0)))), (h2, .inr (2, [.ref h5, .ref h6, .ref h7, .ref h8])), (h3, .inr (5, [.ref h2, .int 0])), (h4, .inr (4, [.ref h2, .ref h9, .int 0])), (h5, .inr (0, [.int 0, .ref z.1, .int 0])), (h6, .inr (0, [.int 0, .ref z.1, .int 0])), (h7, .inr (0, [.int 0, .ref z.1, .int 0])), (h8, .inr (0, [.int 0, .ref z.1, .int 0])), (h9, .inl (kc1, 8, .inl (fun _ => 0)))] [(kc0, .long), (kc1, .int)] sz z)) (va_Qi (fun (r : Int32) (_ : Unit) => r = 1) (fun (_ : Unit) (t : State) => PQ (dC, dI) [(h1, .inl (kc0, 1, .inr (.inl (fun _ => 0))))] [(kc0, .long)] (va_A [(h0, .inr (6, [.ref h2, .ref h3, .ref h4])), (h1, .inl (kc0, 1, .inr (.inl (fun _ => 0)))), (h2, .inr (2, [.ref h5, .ref h6, .ref h7, .ref h8])), (h3, .inr (5, [.ref h2, .int 0])), (h4, .inr (4, [.ref h2, .ref h9, .int 0])), (h5, .inr (0, [.int 0, .ref z.1, .int 0])), (h6, .inr (0, [.int 0, .ref z.1, .int 0])), (h7, .inr (0, [.int 0, .ref z.1, .int 0])), (h8, .inr (0, [.int 0, .ref z.1, .int 0])), (h9, .inl (kc1, 8, .inl (fun _ => 0)))] sz) t) (va_A [(h0, .inr (6, [.ref h2, .ref h3, .ref h4])), (h1, .inl (kc0, 1, .inr (.inl (fun _ => 0)))), (h2, .inr (2, [.ref h5, .ref h6, .ref h7, .ref h8])), (h3, .inr (5, [.ref h2, .int 0])), (h4, .inr (4, [.ref h2, .ref h9, .int 0])), (h5, .inr (0, [.int 0, .ref z.1, .int 0])), (h6, .inr (0, [.int 0, .ref z.1, .int 0])), (h7, .inr (0, [.int 0, .ref z.1, .int 0])), (h8, .inr (0, [.int 0, .ref z.1, .int 0])), (h9, .inl (kc1, 8, .inl (fun _ => 0)))] sz)) 1 6 (va_A [(h0, .inr (6, [.ref h2, .ref h3, .ref h4])), (h1, .inl (kc0, 1, .inr (.inl (fun _ => 0)))), (h2, .inr (2, [.ref h5, .ref h6, .ref h7, .ref h8])), (h3, .inr (5, [.ref h2, .int 0])), (h4, .inr (4, [.ref h2, .ref h9, .int 0])), (h5, .inr (0, [.int 0, .ref z.1, .int 0])), (h6, .inr (0, [.int 0, .ref z.1, .int 0])), (h7, .inr (0, [.int 0, .ref z.1, .int 0])), (h8, .inr (0, [.int 0, .ref z.1, .int 0])), (h9, .inl (kc1, 8, .inl (fun _ => 0)))] sz) := by
  refine va_MetW (cc := cL_stands) (maxL := 4) (ret := (some .int)) (hh := [(0, 9, 12, 23)]) (by decide) rfl ?_
  intro p e s m args below meth c s₁ B hml hv
  obtain ⟨rfl, hsz, hP, hK, hD0, hX, hT⟩ := hv
  have hx := B.exec
  have hb := B.bytes
  have hr := B.returns
  have hts0 := atoms_spec (ws := .codeWith yL_stands cL_stands 4 (some .int) [(0, 9, 12, 23)] :: wsL_law) B.pre
  have htab := vx_table (x := yL_stands) B (hts0 _ List.mem_cons_self)
  have hts := xTail hts0
  have hown : s.vm.findClass RL = some m.cls := findClass_of_methodNamed B.named
  have hlocks := B.notSynchronized
  subst hsz
  have hD := hD0.self (sz := s.heap.size)
  generalize hAe : va_A [(h0, .inr (6, [.ref h2, .ref h3, .ref h4])), (h1, .inl (kc0, 1, .inr (.inl (fun _ => 0)))), (h2, .inr (2, [.ref h5, .ref h6, .ref h7, .ref h8])), (h3, .inr (5, [.ref h2, .int 0])), (h4, .inr (4, [.ref h2, .ref h9, .int 0])), (h5, .inr (0, [.int 0, .ref z.1, .int 0])), (h6, .inr (0, [.int 0, .ref z.1, .int 0])), (h7, .inr (0, [.int 0, .ref z.1, .int 0])), (h8, .inr (0, [.int 0, .ref z.1, .int 0])), (h9, .inl (kc1, 8, .inl (fun _ => 0)))] s.heap.size = A at hD hX ⊢
  have hA : ∀ q : Nat, s.heap.size ≤ q → A q := fun q h => by rw [← hAe]; exact Or.inr h
  have hS : va_S A s.heap s.heap [] := va_S.rf
  have hl := lv_entry ([.ref h0, .int p0, .ref h1]) (n := 4) (Nat.le_of_ble_eq_true rfl)
  rw [lg_entry_eq]
  generalize (lg_sl ([.ref h0, .int p0, .ref h1]) ++ List.replicate (4 - (lg_sl ([.ref h0, .int p0, .ref h1])).length) Slot.unset).toArray = ls at hl ⊢
  have hl : lv_has ls 4 [(0, .ref h0), (1, .int p0), (2, .ref h1)] := hl
  refine lv_aload_n hx hb dL_stands_0 rfl (lv_at hl 2 rfl) ?_
  refine lv_iconst (v := 0) hx hb dL_stands_1 (by decide) ?_
  refine lv_aload_n hx hb dL_stands_2 rfl (lv_at hl 0 rfl) ?_
  refine lv_iload_n hx hb dL_stands_3 rfl (lv_at hl 1 rfl) ?_
  have hF1 := va_free (wc := [(h0, .inr (6, [.ref h2, .ref h3, .ref h4])), (h2, .inr (2, [.ref h5, .ref h6, .ref h7, .ref h8])), (h3, .inr (5, [.ref h2, .int 0])), (h4, .inr (4, [.ref h2, .ref h9, .int 0])), (h5, .inr (0, [.int 0, .ref z.1, .int 0])), (h6, .inr (0, [.int 0, .ref z.1, .int 0])), (h7, .inr (0, [.int 0, .ref z.1, .int 0])), (h8, .inr (0, [.int 0, .ref z.1, .int 0])), (h9, .inl (kc1, 8, .inl (fun _ => 0)))]) hD hS hA [0, 2, 3, 4, 5, 6, 7, 8, 9] rfl
  refine vx_calli (SX := Unit) (vx_runV (As := [.int p0]) (rest := [.int 0, .ref h1]) ⟨hx, hb, hml, hown, hts⟩ (k264_stands l hl9 dC dI z h0 h2 h3 h4 h5 h6 h7 h8 h9 s.heap.size p0 kc1) (cwV 1 hts (gV q_594 q_595 q_596 q_69 q_593) rfl rfl rfl (by decide +kernel) ⟨Nat.le_of_ble_eq_true rfl, Nat.le_of_ble_eq_true rfl⟩) ⟨pc_blind, va_recv hK hP (ci := 6) (q0 := 0) rfl rfl, fun U hU hW => ⟨rfl, pc_mk hP hD hK hS hX hT [0, 2, 3, 4, 5, 6, 7, 8, 9] [1] rfl rfl rfl rfl hF1 hU hW⟩⟩ rfl rfl hl.1 rfl (lv_room (Nat.le_of_ble_eq_true rfl)) dL_stands_4 ⟨(Nat.le_of_ble_eq_true rfl), (Nat.le_of_ble_eq_true rfl)⟩) hS (fun q9 _ h9 => hF1 q9 h9) hF1 (fun q9 _ h9 => hF1 q9 h9) (fun E3 ce3 x3 v3 t3 H3 L3 ht3 hvm3 hw3 hB3 hz3 hk3 hS hc3 hn3 hf3 => ?_) (fun _ _ _ _ _ _ _ hw9 _ _ _ _ => hw9.elim)
  obtain ⟨hP, hD⟩ := pq_rest (wr := [(h1, .inl (kc0, 1, .inr (.inl (fun _ => 0))))]) hP hD [0, 2, 3, 4, 5, 6, 7, 8, 9] [1] rfl rfl (by decide) (by decide) hk3 hF1
  subst hB3
  refine vx_catch (own := RL) (name := "java/lang/IndexOutOfBoundsException") hown [] ⟨0, 9, 12, 23⟩ [] htab (fun z9 hz9 => absurd hz9 List.not_mem_nil) (by decide) (by decide) (hts _ q_354) (va_Nw.use rfl (hT.2.1.1 ("java/lang/IndexOutOfBoundsException", "java/lang/IndexOutOfBoundsException") (by decide))) hc3 hn3 hf3 ?_
  refine lv_astore_n (lv' := [(3, .ref x3), (0, .ref h0), (1, .int p0), (2, .ref h1)]) hx hb dL_stands_12 rfl hl (by decide) rfl (fun ls hl => ?_)
  refine lv_iconst (v := 1) hx hb dL_stands_13 (by decide) ?_
  exact W.iret (v := 1) hx hb hr (fun t9 ht9 hW9 => ⟨⟨1, (), rfl, rfl, pq_mk (wc := [(h1, .inl (kc0, 1, .inr (.inl (fun _ => 0))))]) (tc := [(kc0, .long)]) hP hD hK [0] [0] rfl rfl rfl rfl ht9 hW9⟩, hS.F ht9⟩) hS.2.2 dL_stands_14

set_option maxHeartbeats 4000000 in
set_option maxRecDepth 100000 in
theorem k266_stands (l : Launch) (hl9 : l.stackTraces = false) (dC : Nat → ClassId) (dI : Nat → Nat → Nat) (z : XZ) (h0 h1 h2 h3 h4 : Nat) (sz : Nat) (p0 : Int32) : Met l yX9_stands (.code yX9_stands cX9_stands 2 (some .int) :: wsL_law) ({ frames := 2, cells := 0, slots := 0, locals := 43 }) (va_Pc [.ref h0, .int p0] (PC (dC, dI) [(h0, .inr (8, [.int 0, .ref h1, .ref h2, .ref h3, .ref h4, .int 0])), (h1, .inr (0, [.int 0, .ref z.1, .int 0])), (h2, .inr (0, [.int 0, .ref z.1, .int 0])), (h3, .inr (0, [.int 0, .ref z.1, .int 0])), (h4, .inr (0, [.int 0, .ref z.1, .int 0]))] [] sz z)) (va_Qi (fun (r : Int32) (_ : Unit) => r = 0) (fun (_ : Unit) (t : State) => PQ (dC, dI) [(h0, .inr (8, [.int 1, .ref h1, .ref h2, .ref h3, .ref h4, .int 0])), (h1, .inr (0, [.int 0, .ref z.1, .int 0])), (h2, .inr (0, [.int 0, .ref z.1, .int 0])), (h3, .inr (0, [.int 0, .ref z.1, .int 0])), (h4, .inr (0, [.int 0, .ref z.1, .int 0]))] [] (va_A [(h0, .inr (8, [.int 0, .ref h1, .ref h2, .ref h3, .ref h4, .int 0])), (h1, .inr (0, [.int 0, .ref z.1, .int 0])), (h2, .inr (0, [.int 0, .ref z.1, .int 0])), (h3, .inr (0, [.int 0, .ref z.1, .int 0])), (h4, .inr (0, [.int 0, .ref z.1, .int 0]))] sz) t) (va_A [(h0, .inr (8, [.int 0, .ref h1, .ref h2, .ref h3, .ref h4, .int 0])), (h1, .inr (0, [.int 0, .ref z.1, .int 0])), (h2, .inr (0, [.int 0, .ref z.1, .int 0])), (h3, .inr (0, [.int 0, .ref z.1, .int 0])), (h4, .inr (0, [.int 0, .ref z.1, .int 0]))] sz)) 0 0 (va_A [(h0, .inr (8, [.int 0, .ref h1, .ref h2, .ref h3, .ref h4, .int 0])), (h1, .inr (0, [.int 0, .ref z.1, .int 0])), (h2, .inr (0, [.int 0, .ref z.1, .int 0])), (h3, .inr (0, [.int 0, .ref z.1, .int 0])), (h4, .inr (0, [.int 0, .ref z.1, .int 0]))] sz) := by
  refine Met.ofW (cc := cX9_stands) (maxL := 2) (ret := (some .int)) (by decide) rfl ?_
  intro p e s m args below meth c s₁ B hml hv
  obtain ⟨rfl, hsz, hP, hK, hD0, hX, hT⟩ := hv
  have hx := B.exec
  have hb := B.bytes
  have hr := B.returns
  have hts0 := atoms_spec (ws := .code yX9_stands cX9_stands 2 (some .int) :: wsL_law) B.pre
  have hts := xTail hts0
  have hown : s.vm.findClass RX9 = some m.cls := findClass_of_methodNamed B.named
  have hlocks := B.notSynchronized
  subst hsz
  have hD := hD0.self (sz := s.heap.size)
  generalize hAe : va_A [(h0, .inr (8, [.int 0, .ref h1, .ref h2, .ref h3, .ref h4, .int 0])), (h1, .inr (0, [.int 0, .ref z.1, .int 0])), (h2, .inr (0, [.int 0, .ref z.1, .int 0])), (h3, .inr (0, [.int 0, .ref z.1, .int 0])), (h4, .inr (0, [.int 0, .ref z.1, .int 0]))] s.heap.size = A at hD hX ⊢
  have hA : ∀ q : Nat, s.heap.size ≤ q → A q := fun q h => by rw [← hAe]; exact Or.inr h
  have hS : va_S A s.heap s.heap [] := va_S.rf
  have hl := lv_entry ([.ref h0, .int p0]) (n := 2) (Nat.le_of_ble_eq_true rfl)
  rw [lg_entry_eq]
  generalize (lg_sl ([.ref h0, .int p0]) ++ List.replicate (2 - (lg_sl ([.ref h0, .int p0])).length) Slot.unset).toArray = ls at hl ⊢
  have hl : lv_has ls 2 [(0, .ref h0), (1, .int p0)] := hl
  refine lv_aload_n hx hb dX9_stands_0 rfl (lv_at hl 0 rfl) ?_
  refine lv_iconst (v := 0) hx hb dX9_stands_1 (by decide) ?_
  refine va_put (D := (dC, dI)) (ci := 8) (v := .int 0) (ty := .int) (C := RX9) (T := TX9) (N := 6) hx hb hts in_X9 tyX9 tyX9_ok nmX9 hown hK hP hD hS 0 rfl rfl 0 (by decide) (hts _ q_230) (fun _ h9 => h9) rfl (by decide +kernel) rfl rfl (Nat.le_of_ble_eq_true rfl) dX9_stands_2 (fun H1 _ hP hD hS => ?_)
  have hP : va_P (dC, dI) xCl [(h0, .inr (8, [.int 0, .ref h1, .ref h2, .ref h3, .ref h4, .int 0])), (h1, .inr (0, [.int 0, .ref z.1, .int 0])), (h2, .inr (0, [.int 0, .ref z.1, .int 0])), (h3, .inr (0, [.int 0, .ref z.1, .int 0])), (h4, .inr (0, [.int 0, .ref z.1, .int 0]))] H1 := hP
  have hD : va_D A [(h0, .inr (8, [.int 0, .ref h1, .ref h2, .ref h3, .ref h4, .int 0])), (h1, .inr (0, [.int 0, .ref z.1, .int 0])), (h2, .inr (0, [.int 0, .ref z.1, .int 0])), (h3, .inr (0, [.int 0, .ref z.1, .int 0])), (h4, .inr (0, [.int 0, .ref z.1, .int 0]))] := hD
  refine lv_aload_n hx hb dX9_stands_5 rfl (lv_at hl 0 rfl) ?_
  refine lv_aload_n hx hb dX9_stands_6 rfl (lv_at hl 0 rfl) ?_
  refine lv_iload_n hx hb dX9_stands_7 rfl (lv_at hl 1 rfl) ?_
  have hF2 := va_free (wc := [(h0, .inr (8, [.int 0, .ref h1, .ref h2, .ref h3, .ref h4, .int 0])), (h1, .inr (0, [.int 0, .ref z.1, .int 0])), (h2, .inr (0, [.int 0, .ref z.1, .int 0])), (h3, .inr (0, [.int 0, .ref z.1, .int 0])), (h4, .inr (0, [.int 0, .ref z.1, .int 0]))]) hD hS hA [0, 1, 2, 3, 4] rfl
  refine va_calli (va_runV (As := [.int p0]) (rest := [.ref h0]) ⟨hx, hb, hml, hown, hts⟩ (k95_no l hl9 dC dI z h0 h1 h2 h3 h4 H1.size p0) (cwV 1 hts (gV q_362 q_363 q_364 q_255 q_361) rfl rfl rfl (by decide +kernel) ⟨Nat.le_of_ble_eq_true rfl, Nat.le_of_ble_eq_true rfl⟩) ⟨pc_blind, va_recv hK hP (ci := 8) (q0 := 0) rfl rfl, fun U hU hW => ⟨rfl, pc_mk hP hD hK hS hX hT [0, 1, 2, 3, 4] [] rfl rfl rfl rfl hF2 hU hW⟩⟩ rfl rfl hl.1 rfl (lv_room (Nat.le_of_ble_eq_true rfl)) dX9_stands_8 ⟨(Nat.le_of_ble_eq_true rfl), (Nat.le_of_ble_eq_true rfl)⟩) hS (fun q9 _ h9 => hF2 q9 h9) hF2 (fun r5 u4 t4 H4 L4 ht4 hvm4 hw4 hB4 hz4 hk4 hS => ?_)
  obtain ⟨hP, hD, hK⟩ := pq_join (wr := []) (tr := []) (wz := [(h0, .inr (8, [.int 0, .ref h1, .ref h2, .ref h3, .ref h4, .int 0])), (h1, .inr (0, [.int 0, .ref z.1, .int 0])), (h2, .inr (0, [.int 0, .ref z.1, .int 0])), (h3, .inr (0, [.int 0, .ref z.1, .int 0])), (h4, .inr (0, [.int 0, .ref z.1, .int 0]))]) (tz := []) hP hD hK [0, 1, 2, 3, 4] [] [] rfl rfl (by decide) (by decide) rfl hk4 hF2 hB4 ht4 hvm4 rfl rfl
  refine W.eq (g2 := F0 m 11 ls [.int 1, .ref h0]) (by rw [hw4]) ?_
  refine lv_iconst (v := 1) hx hb dX9_stands_11 (by decide) ?_
  have hF6 := va_free (wc := [(h0, .inr (8, [.int 0, .ref h1, .ref h2, .ref h3, .ref h4, .int 0])), (h1, .inr (0, [.int 0, .ref z.1, .int 0])), (h2, .inr (0, [.int 0, .ref z.1, .int 0])), (h3, .inr (0, [.int 0, .ref z.1, .int 0])), (h4, .inr (0, [.int 0, .ref z.1, .int 0]))]) hD hS hA [0, 1, 2, 3, 4] rfl
  refine va_calli (va_runV (As := [.int 1, .int 1]) (rest := []) ⟨hx, hb, hml, hown, hts⟩ (k93_fails l hl9 dC dI z h0 h1 h2 h3 h4 H4.size) (cwV 2 hts (gV q_257 q_258 q_259 q_255 q_256) rfl rfl rfl (by decide +kernel) ⟨Nat.le_of_ble_eq_true rfl, Nat.le_of_ble_eq_true rfl⟩) ⟨pc_blind, va_recv hK hP (ci := 8) (q0 := 0) rfl rfl, fun U hU hW => ⟨rfl, pc_mk hP hD hK hS hX hT [0, 1, 2, 3, 4] [] rfl rfl rfl rfl hF6 hU hW⟩⟩ rfl rfl hl.1 rfl (lv_room (Nat.le_of_ble_eq_true rfl)) dX9_stands_12 ⟨(Nat.le_of_ble_eq_true rfl), (Nat.le_of_ble_eq_true rfl)⟩) hS (fun q9 _ h9 => hF6 q9 h9) hF6 (fun r9 u8 t8 H8 L8 ht8 hvm8 hw8 hB8 hz8 hk8 hS => ?_)
  obtain ⟨hP, hD, hK⟩ := pq_join (wr := []) (tr := []) (wz := [(h0, .inr (8, [.int 1, .ref h1, .ref h2, .ref h3, .ref h4, .int 0])), (h1, .inr (0, [.int 0, .ref z.1, .int 0])), (h2, .inr (0, [.int 0, .ref z.1, .int 0])), (h3, .inr (0, [.int 0, .ref z.1, .int 0])), (h4, .inr (0, [.int 0, .ref z.1, .int 0]))]) (tz := []) hP hD hK [0, 1, 2, 3, 4] [] [] rfl rfl (by decide) (by decide) rfl hk8 hF6 hB8 ht8 hvm8 rfl rfl
  refine W.eq (g2 := F0 m 15 ls [.int 1]) (by rw [hw8]) ?_
  refine lv_if_eq (tgt := 22) hx hb dX9_stands_15 (by decide) (fun cz => absurd cz (by decide)) (fun _ => ?_)
  refine lv_iconst (v := 0) hx hb dX9_stands_18 (by decide) ?_
  refine lv_goto (tgt := 28) hx hb dX9_stands_19 (by decide) ?_
  exact W.iret (v := 0) hx hb hr (fun t9 ht9 hW9 => ⟨⟨0, (), rfl, rfl, pq_mk (wc := [(h0, .inr (8, [.int 1, .ref h1, .ref h2, .ref h3, .ref h4, .int 0])), (h1, .inr (0, [.int 0, .ref z.1, .int 0])), (h2, .inr (0, [.int 0, .ref z.1, .int 0])), (h3, .inr (0, [.int 0, .ref z.1, .int 0])), (h4, .inr (0, [.int 0, .ref z.1, .int 0]))]) (tc := []) hP hD hK [0, 1, 2, 3, 4] [] rfl rfl rfl rfl ht9 hW9⟩, hS.F ht9⟩) hS.2.2 dX9_stands_28

set_option maxHeartbeats 4000000 in
set_option maxRecDepth 100000 in
theorem k267_differs (l : Launch) (hl9 : l.stackTraces = false) (dC : Nat → ClassId) (dI : Nat → Nat → Nat) (z : XZ) (h0 h1 h2 h3 h4 h5 h6 h7 h8 : Nat) (sz : Nat) (p0 p1 : Int32) (kc0 : ClassId) : vx_Met l yX6_differs (.code yX6_differs cX6_differs 5 (some .int) :: wsL_law) ({ frames := 8, cells := 1, slots := 6, locals := 121 }) (va_Pc [.ref h0, .int p0, .int p1] (PC (dC, dI) [(h0, .inr (6, [.ref h1, .ref h2, .ref h3])), (h1, .inr (2, [.ref h4, .ref h5, .ref h6, .ref h7])), (h2, .inr (5, [.ref h1, .int 0])), (h3, .inr (4, [.ref h1, .ref h8, .int 0])), (h4, .inr (0, [.int 0, .ref z.1, .int 0])), (h5, .inr (0, [.int 0, .ref z.1, .int 0])), (h6, .inr (0, [.int 0, .ref z.1, .int 0])), (h7, .inr (0, [.int 0, .ref z.1, .int 0])), (h8, .inl (kc0, 8, .inl (fun _ => 0)))] [(kc0, .int)] sz z)) (va_Qi (fun (_ : Int32) (_ : Unit) => False) (fun _ _ => True) (va_A [(h0, .inr (6, [.ref h1, .ref h2, .ref h3])), (h1, .inr (2, [.ref h4, .ref h5, .ref h6, .ref h7])), (h2, .inr (5, [.ref h1, .int 0])), (h3, .inr (4, [.ref h1, .ref h8, .int 0])), (h4, .inr (0, [.int 0, .ref z.1, .int 0])), (h5, .inr (0, [.int 0, .ref z.1, .int 0])), (h6, .inr (0, [.int 0, .ref z.1, .int 0])), (h7, .inr (0, [.int 0, .ref z.1, .int 0])), (h8, .inl (kc0, 8, .inl (fun _ => 0)))] sz)) (vx_X (fun (_ : Unit) => True) (fun (E : String) (_ : Unit) (_ : State) => E = "java/lang/IndexOutOfBoundsException") (va_A [(h0, .inr (6, [.ref h1, .ref h2, .ref h3])), (h1, .inr (2, [.ref h4, .ref h5, .ref h6, .ref h7])), (h2, .inr (5, [.ref h1, .int 0])), (h3, .inr (4, [.ref h1, .ref h8, .int 0])), (h4, .inr (0, [.int 0, .ref z.1, .int 0])), (h5, .inr (0, [.int 0, .ref z.1, .int 0])), (h6, .inr (0, [.int 0, .ref z.1, .int 0])), (h7, .inr (0, [.int 0, .ref z.1, .int 0])), (h8, .inl (kc0, 8, .inl (fun _ => 0)))] sz)) 1 6 (va_A [(h0, .inr (6, [.ref h1, .ref h2, .ref h3])), (h1, .inr (2, [.ref h4, .ref h5, .ref h6, .ref h7])), (h2, .inr (5, [.ref h1, .int 0])), (h3, .inr (4, [.ref h1, .ref h8, .int 0])), (h4, .inr (0, [.int 0, .ref z.1, .int 0])), (h5, .inr (0, [.int 0, .ref z.1, .int 0])), (h6, .inr (0, [.int 0, .ref z.1, .int 0])), (h7, .inr (0, [.int 0, .ref z.1, .int 0])), (h8, .inl (kc0, 8, .inl (fun _ => 0)))] sz) := by
  refine vx_ofW (cc := cX6_differs) (maxL := 5) (ret := (some .int)) (by decide) rfl ?_
  intro p e s m args below meth c s₁ B hml hnt hv
  obtain ⟨rfl, hsz, hP, hK, hD0, hX, hT⟩ := hv
  have hx := B.exec
  have hb := B.bytes
  have hr := B.returns
  have hts0 := atoms_spec (ws := .code yX6_differs cX6_differs 5 (some .int) :: wsL_law) B.pre
  have hts := xTail hts0
  have hown : s.vm.findClass RX6 = some m.cls := findClass_of_methodNamed B.named
  have hlocks := B.notSynchronized
  subst hsz
  have hD := hD0.self (sz := s.heap.size)
  generalize hAe : va_A [(h0, .inr (6, [.ref h1, .ref h2, .ref h3])), (h1, .inr (2, [.ref h4, .ref h5, .ref h6, .ref h7])), (h2, .inr (5, [.ref h1, .int 0])), (h3, .inr (4, [.ref h1, .ref h8, .int 0])), (h4, .inr (0, [.int 0, .ref z.1, .int 0])), (h5, .inr (0, [.int 0, .ref z.1, .int 0])), (h6, .inr (0, [.int 0, .ref z.1, .int 0])), (h7, .inr (0, [.int 0, .ref z.1, .int 0])), (h8, .inl (kc0, 8, .inl (fun _ => 0)))] s.heap.size = A at hD hX ⊢
  have hA : ∀ q : Nat, s.heap.size ≤ q → A q := fun q h => by rw [← hAe]; exact Or.inr h
  have hS : va_S A s.heap s.heap [] := va_S.rf
  have hl := lv_entry ([.ref h0, .int p0, .int p1]) (n := 5) (Nat.le_of_ble_eq_true rfl)
  rw [lg_entry_eq]
  generalize (lg_sl ([.ref h0, .int p0, .int p1]) ++ List.replicate (5 - (lg_sl ([.ref h0, .int p0, .int p1])).length) Slot.unset).toArray = ls at hl ⊢
  have hl : lv_has ls 5 [(0, .ref h0), (1, .int p0), (2, .int p1)] := hl
  refine lv_aload_n hx hb dX6_differs_0 rfl (lv_at hl 0 rfl) ?_
  refine lv_iload_n hx hb dX6_differs_1 rfl (lv_at hl 1 rfl) ?_
  have hF1 := va_free (wc := [(h0, .inr (6, [.ref h1, .ref h2, .ref h3])), (h1, .inr (2, [.ref h4, .ref h5, .ref h6, .ref h7])), (h2, .inr (5, [.ref h1, .int 0])), (h3, .inr (4, [.ref h1, .ref h8, .int 0])), (h4, .inr (0, [.int 0, .ref z.1, .int 0])), (h5, .inr (0, [.int 0, .ref z.1, .int 0])), (h6, .inr (0, [.int 0, .ref z.1, .int 0])), (h7, .inr (0, [.int 0, .ref z.1, .int 0])), (h8, .inl (kc0, 8, .inl (fun _ => 0)))]) hD hS hA [0, 1, 2, 3, 4, 5, 6, 7, 8] rfl
  refine vx_callq (SX := Unit) (vx_runV (As := [.int p0]) (rest := []) ⟨hx, hb, hml, hown, hts⟩ (k89_netAt l hl9 dC dI z h0 h1 h2 h3 h4 h5 h6 h7 h8 s.heap.size p0 kc0) (cwV 1 hts (gV q_346 q_347 q_348 q_69 q_345) rfl rfl rfl (by decide +kernel) ⟨Nat.le_of_ble_eq_true rfl, Nat.le_of_ble_eq_true rfl⟩) ⟨pc_blind, va_recv hK hP (ci := 6) (q0 := 0) rfl rfl, fun U hU hW => ⟨rfl, pc_mk hP hD hK hS hX hT [0, 1, 2, 3, 4, 5, 6, 7, 8] [0] rfl rfl rfl rfl hF1 hU hW⟩⟩ rfl rfl hl.1 rfl (lv_room (Nat.le_of_ble_eq_true rfl)) dX6_differs_2 ⟨(Nat.le_of_ble_eq_true rfl), (Nat.le_of_ble_eq_true rfl)⟩) hS (fun q9 _ h9 => hF1 q9 h9) hF1 (fun q9 _ h9 => hF1 q9 h9) (fun E3 ce3 x3 v3 t3 H3 L3 ht3 hvm3 hw3 hB3 hz3 hk3 hS hc3 hn3 hf3 => ?_) (fun _ _ _ _ _ _ _ hw9 _ _ _ _ => hw9.elim)
  obtain ⟨hP, hD⟩ := pq_rest (wr := []) hP hD [0, 1, 2, 3, 4, 5, 6, 7, 8] [] rfl rfl (by decide) (by decide) hk3 hF1
  exact vx_out (fun x9 hx9 => (hnt x9 hx9).elim) hlocks hc3 hn3 hf3 (fun t9 ht9 hv9 => ⟨(), trivial, hB3, hS.F ht9⟩) hS.2.2 (by decide) (by decide)

set_option maxHeartbeats 4000000 in
set_option maxRecDepth 100000 in
theorem k268_differs (l : Launch) (hl9 : l.stackTraces = false) (dC : Nat → ClassId) (dI : Nat → Nat → Nat) (z : XZ) (h0 h1 h2 h3 h4 h5 h6 h7 h8 h9 : Nat) (sz : Nat) (p0 p1 : Int32) (kc0 kc1 : ClassId) : Met l yL_differs (.codeWith yL_differs cL_differs 5 (some .int) [(0, 10, 13, 23)] :: wsL_law) ({ frames := 9, cells := 1, slots := 6, locals := 145 }) (va_Pc [.ref h0, .int p0, .int p1, .ref h1] (PC (dC, dI) [(h0, .inr (6, [.ref h2, .ref h3, .ref h4])), (h1, .inl (kc0, 1, .inr (.inl (fun _ => 0)))), (h2, .inr (2, [.ref h5, .ref h6, .ref h7, .ref h8])), (h3, .inr (5, [.ref h2, .int 0])), (h4, .inr (4, [.ref h2, .ref h9, .int 0])), (h5, .inr (0, [.int 0, .ref z.1, .int 0])), (h6, .inr (0, [.int 0, .ref z.1, .int 0])), (h7, .inr (0, [.int 0, .ref z.1, .int 0])), (h8, .inr (0, [.int 0, .ref z.1, .int 0])), (h9, .inl (kc1, 8, .inl (fun _ => 0)))] [(kc0, .long), (kc1, .int)] sz z)) (va_Qi (fun (r : Int32) (_ : Unit) => r = 1) (fun (_ : Unit) (t : State) => PQ (dC, dI) [(h1, .inl (kc0, 1, .inr (.inl (fun _ => 0))))] [(kc0, .long)] (va_A [(h0, .inr (6, [.ref h2, .ref h3, .ref h4])), (h1, .inl (kc0, 1, .inr (.inl (fun _ => 0)))), (h2, .inr (2, [.ref h5, .ref h6, .ref h7, .ref h8])), (h3, .inr (5, [.ref h2, .int 0])), (h4, .inr (4, [.ref h2, .ref h9, .int 0])), (h5, .inr (0, [.int 0, .ref z.1, .int 0])), (h6, .inr (0, [.int 0, .ref z.1, .int 0])), (h7, .inr (0, [.int 0, .ref z.1, .int 0])), (h8, .inr (0, [.int 0, .ref z.1, .int 0])), (h9, .inl (kc1, 8, .inl (fun _ => 0)))] sz) t) (va_A [(h0, .inr (6, [.ref h2, .ref h3, .ref h4])), (h1, .inl (kc0, 1, .inr (.inl (fun _ => 0)))), (h2, .inr (2, [.ref h5, .ref h6, .ref h7, .ref h8])), (h3, .inr (5, [.ref h2, .int 0])), (h4, .inr (4, [.ref h2, .ref h9, .int 0])), (h5, .inr (0, [.int 0, .ref z.1, .int 0])), (h6, .inr (0, [.int 0, .ref z.1, .int 0])), (h7, .inr (0, [.int 0, .ref z.1, .int 0])), (h8, .inr (0, [.int 0, .ref z.1, .int 0])), (h9, .inl (kc1, 8, .inl (fun _ => 0)))] sz)) 1 6 (va_A [(h0, .inr (6, [.ref h2, .ref h3, .ref h4])), (h1, .inl (kc0, 1, .inr (.inl (fun _ => 0)))), (h2, .inr (2, [.ref h5, .ref h6, .ref h7, .ref h8])), (h3, .inr (5, [.ref h2, .int 0])), (h4, .inr (4, [.ref h2, .ref h9, .int 0])), (h5, .inr (0, [.int 0, .ref z.1, .int 0])), (h6, .inr (0, [.int 0, .ref z.1, .int 0])), (h7, .inr (0, [.int 0, .ref z.1, .int 0])), (h8, .inr (0, [.int 0, .ref z.1, .int 0])), (h9, .inl (kc1, 8, .inl (fun _ => 0)))] sz) := by
  refine va_MetW (cc := cL_differs) (maxL := 5) (ret := (some .int)) (hh := [(0, 10, 13, 23)]) (by decide) rfl ?_
  intro p e s m args below meth c s₁ B hml hv
  obtain ⟨rfl, hsz, hP, hK, hD0, hX, hT⟩ := hv
  have hx := B.exec
  have hb := B.bytes
  have hr := B.returns
  have hts0 := atoms_spec (ws := .codeWith yL_differs cL_differs 5 (some .int) [(0, 10, 13, 23)] :: wsL_law) B.pre
  have htab := vx_table (x := yL_differs) B (hts0 _ List.mem_cons_self)
  have hts := xTail hts0
  have hown : s.vm.findClass RL = some m.cls := findClass_of_methodNamed B.named
  have hlocks := B.notSynchronized
  subst hsz
  have hD := hD0.self (sz := s.heap.size)
  generalize hAe : va_A [(h0, .inr (6, [.ref h2, .ref h3, .ref h4])), (h1, .inl (kc0, 1, .inr (.inl (fun _ => 0)))), (h2, .inr (2, [.ref h5, .ref h6, .ref h7, .ref h8])), (h3, .inr (5, [.ref h2, .int 0])), (h4, .inr (4, [.ref h2, .ref h9, .int 0])), (h5, .inr (0, [.int 0, .ref z.1, .int 0])), (h6, .inr (0, [.int 0, .ref z.1, .int 0])), (h7, .inr (0, [.int 0, .ref z.1, .int 0])), (h8, .inr (0, [.int 0, .ref z.1, .int 0])), (h9, .inl (kc1, 8, .inl (fun _ => 0)))] s.heap.size = A at hD hX ⊢
  have hA : ∀ q : Nat, s.heap.size ≤ q → A q := fun q h => by rw [← hAe]; exact Or.inr h
  have hS : va_S A s.heap s.heap [] := va_S.rf
  have hl := lv_entry ([.ref h0, .int p0, .int p1, .ref h1]) (n := 5) (Nat.le_of_ble_eq_true rfl)
  rw [lg_entry_eq]
  generalize (lg_sl ([.ref h0, .int p0, .int p1, .ref h1]) ++ List.replicate (5 - (lg_sl ([.ref h0, .int p0, .int p1, .ref h1])).length) Slot.unset).toArray = ls at hl ⊢
  have hl : lv_has ls 5 [(0, .ref h0), (1, .int p0), (2, .int p1), (3, .ref h1)] := hl
  refine lv_aload_n hx hb dL_differs_0 rfl (lv_at hl 3 rfl) ?_
  refine lv_iconst (v := 0) hx hb dL_differs_1 (by decide) ?_
  refine lv_aload_n hx hb dL_differs_2 rfl (lv_at hl 0 rfl) ?_
  refine lv_iload_n hx hb dL_differs_3 rfl (lv_at hl 1 rfl) ?_
  refine lv_iload_n hx hb dL_differs_4 rfl (lv_at hl 2 rfl) ?_
  have hF1 := va_free (wc := [(h0, .inr (6, [.ref h2, .ref h3, .ref h4])), (h2, .inr (2, [.ref h5, .ref h6, .ref h7, .ref h8])), (h3, .inr (5, [.ref h2, .int 0])), (h4, .inr (4, [.ref h2, .ref h9, .int 0])), (h5, .inr (0, [.int 0, .ref z.1, .int 0])), (h6, .inr (0, [.int 0, .ref z.1, .int 0])), (h7, .inr (0, [.int 0, .ref z.1, .int 0])), (h8, .inr (0, [.int 0, .ref z.1, .int 0])), (h9, .inl (kc1, 8, .inl (fun _ => 0)))]) hD hS hA [0, 2, 3, 4, 5, 6, 7, 8, 9] rfl
  refine vx_calli (SX := Unit) (vx_runV (As := [.int p0, .int p1]) (rest := [.int 0, .ref h1]) ⟨hx, hb, hml, hown, hts⟩ (k267_differs l hl9 dC dI z h0 h2 h3 h4 h5 h6 h7 h8 h9 s.heap.size p0 p1 kc1) (cwV 2 hts (gV q_605 q_606 q_607 q_69 q_604) rfl rfl rfl (by decide +kernel) ⟨Nat.le_of_ble_eq_true rfl, Nat.le_of_ble_eq_true rfl⟩) ⟨pc_blind, va_recv hK hP (ci := 6) (q0 := 0) rfl rfl, fun U hU hW => ⟨rfl, pc_mk hP hD hK hS hX hT [0, 2, 3, 4, 5, 6, 7, 8, 9] [1] rfl rfl rfl rfl hF1 hU hW⟩⟩ rfl rfl hl.1 rfl (lv_room (Nat.le_of_ble_eq_true rfl)) dL_differs_5 ⟨(Nat.le_of_ble_eq_true rfl), (Nat.le_of_ble_eq_true rfl)⟩) hS (fun q9 _ h9 => hF1 q9 h9) hF1 (fun q9 _ h9 => hF1 q9 h9) (fun E3 ce3 x3 v3 t3 H3 L3 ht3 hvm3 hw3 hB3 hz3 hk3 hS hc3 hn3 hf3 => ?_) (fun _ _ _ _ _ _ _ hw9 _ _ _ _ => hw9.elim)
  obtain ⟨hP, hD⟩ := pq_rest (wr := [(h1, .inl (kc0, 1, .inr (.inl (fun _ => 0))))]) hP hD [0, 2, 3, 4, 5, 6, 7, 8, 9] [1] rfl rfl (by decide) (by decide) hk3 hF1
  subst hB3
  refine vx_catch (own := RL) (name := "java/lang/IndexOutOfBoundsException") hown [] ⟨0, 10, 13, 23⟩ [] htab (fun z9 hz9 => absurd hz9 List.not_mem_nil) (by decide) (by decide) (hts _ q_354) (va_Nw.use rfl (hT.2.1.1 ("java/lang/IndexOutOfBoundsException", "java/lang/IndexOutOfBoundsException") (by decide))) hc3 hn3 hf3 ?_
  refine lv_astore (lv' := [(4, .ref x3), (0, .ref h0), (1, .int p0), (2, .int p1), (3, .ref h1)]) hx hb dL_differs_13 hl (by decide) rfl (fun ls hl => ?_)
  refine lv_iconst (v := 1) hx hb dL_differs_15 (by decide) ?_
  exact W.iret (v := 1) hx hb hr (fun t9 ht9 hW9 => ⟨⟨1, (), rfl, rfl, pq_mk (wc := [(h1, .inl (kc0, 1, .inr (.inl (fun _ => 0))))]) (tc := [(kc0, .long)]) hP hD hK [0] [0] rfl rfl rfl rfl ht9 hW9⟩, hS.F ht9⟩) hS.2.2 dL_differs_16

set_option maxHeartbeats 4000000 in
set_option maxRecDepth 100000 in
theorem k269_differs (l : Launch) (hl9 : l.stackTraces = false) (dC : Nat → ClassId) (dI : Nat → Nat → Nat) (z : XZ) (h0 h1 h2 h3 h4 : Nat) (sz : Nat) (p0 p1 : Int32) : Met l yX9_differs (.code yX9_differs cX9_differs 5 (some .int) :: wsL_law) ({ frames := 2, cells := 0, slots := 0, locals := 43 }) (va_Pc [.ref h0, .int p0, .int p1] (PC (dC, dI) [(h0, .inr (8, [.int 0, .ref h1, .ref h2, .ref h3, .ref h4, .int 0])), (h1, .inr (0, [.int 0, .ref z.1, .int 0])), (h2, .inr (0, [.int 0, .ref z.1, .int 0])), (h3, .inr (0, [.int 0, .ref z.1, .int 0])), (h4, .inr (0, [.int 0, .ref z.1, .int 0]))] [] sz z)) (va_Qi (fun (r : Int32) (_ : Unit) => r = 0) (fun (_ : Unit) (t : State) => PQ (dC, dI) [(h0, .inr (8, [.int 1, .ref h1, .ref h2, .ref h3, .ref h4, .int 0])), (h1, .inr (0, [.int 0, .ref z.1, .int 0])), (h2, .inr (0, [.int 0, .ref z.1, .int 0])), (h3, .inr (0, [.int 0, .ref z.1, .int 0])), (h4, .inr (0, [.int 0, .ref z.1, .int 0]))] [] (va_A [(h0, .inr (8, [.int 0, .ref h1, .ref h2, .ref h3, .ref h4, .int 0])), (h1, .inr (0, [.int 0, .ref z.1, .int 0])), (h2, .inr (0, [.int 0, .ref z.1, .int 0])), (h3, .inr (0, [.int 0, .ref z.1, .int 0])), (h4, .inr (0, [.int 0, .ref z.1, .int 0]))] sz) t) (va_A [(h0, .inr (8, [.int 0, .ref h1, .ref h2, .ref h3, .ref h4, .int 0])), (h1, .inr (0, [.int 0, .ref z.1, .int 0])), (h2, .inr (0, [.int 0, .ref z.1, .int 0])), (h3, .inr (0, [.int 0, .ref z.1, .int 0])), (h4, .inr (0, [.int 0, .ref z.1, .int 0]))] sz)) 0 0 (va_A [(h0, .inr (8, [.int 0, .ref h1, .ref h2, .ref h3, .ref h4, .int 0])), (h1, .inr (0, [.int 0, .ref z.1, .int 0])), (h2, .inr (0, [.int 0, .ref z.1, .int 0])), (h3, .inr (0, [.int 0, .ref z.1, .int 0])), (h4, .inr (0, [.int 0, .ref z.1, .int 0]))] sz) := by
  refine Met.ofW (cc := cX9_differs) (maxL := 5) (ret := (some .int)) (by decide) rfl ?_
  intro p e s m args below meth c s₁ B hml hv
  obtain ⟨rfl, hsz, hP, hK, hD0, hX, hT⟩ := hv
  have hx := B.exec
  have hb := B.bytes
  have hr := B.returns
  have hts0 := atoms_spec (ws := .code yX9_differs cX9_differs 5 (some .int) :: wsL_law) B.pre
  have hts := xTail hts0
  have hown : s.vm.findClass RX9 = some m.cls := findClass_of_methodNamed B.named
  have hlocks := B.notSynchronized
  subst hsz
  have hD := hD0.self (sz := s.heap.size)
  generalize hAe : va_A [(h0, .inr (8, [.int 0, .ref h1, .ref h2, .ref h3, .ref h4, .int 0])), (h1, .inr (0, [.int 0, .ref z.1, .int 0])), (h2, .inr (0, [.int 0, .ref z.1, .int 0])), (h3, .inr (0, [.int 0, .ref z.1, .int 0])), (h4, .inr (0, [.int 0, .ref z.1, .int 0]))] s.heap.size = A at hD hX ⊢
  have hA : ∀ q : Nat, s.heap.size ≤ q → A q := fun q h => by rw [← hAe]; exact Or.inr h
  have hS : va_S A s.heap s.heap [] := va_S.rf
  have hl := lv_entry ([.ref h0, .int p0, .int p1]) (n := 5) (Nat.le_of_ble_eq_true rfl)
  rw [lg_entry_eq]
  generalize (lg_sl ([.ref h0, .int p0, .int p1]) ++ List.replicate (5 - (lg_sl ([.ref h0, .int p0, .int p1])).length) Slot.unset).toArray = ls at hl ⊢
  have hl : lv_has ls 5 [(0, .ref h0), (1, .int p0), (2, .int p1)] := hl
  refine lv_aload_n hx hb dX9_differs_0 rfl (lv_at hl 0 rfl) ?_
  refine lv_iconst (v := 0) hx hb dX9_differs_1 (by decide) ?_
  refine va_put (D := (dC, dI)) (ci := 8) (v := .int 0) (ty := .int) (C := RX9) (T := TX9) (N := 6) hx hb hts in_X9 tyX9 tyX9_ok nmX9 hown hK hP hD hS 0 rfl rfl 0 (by decide) (hts _ q_230) (fun _ h9 => h9) rfl (by decide +kernel) rfl rfl (Nat.le_of_ble_eq_true rfl) dX9_differs_2 (fun H1 _ hP hD hS => ?_)
  have hP : va_P (dC, dI) xCl [(h0, .inr (8, [.int 0, .ref h1, .ref h2, .ref h3, .ref h4, .int 0])), (h1, .inr (0, [.int 0, .ref z.1, .int 0])), (h2, .inr (0, [.int 0, .ref z.1, .int 0])), (h3, .inr (0, [.int 0, .ref z.1, .int 0])), (h4, .inr (0, [.int 0, .ref z.1, .int 0]))] H1 := hP
  have hD : va_D A [(h0, .inr (8, [.int 0, .ref h1, .ref h2, .ref h3, .ref h4, .int 0])), (h1, .inr (0, [.int 0, .ref z.1, .int 0])), (h2, .inr (0, [.int 0, .ref z.1, .int 0])), (h3, .inr (0, [.int 0, .ref z.1, .int 0])), (h4, .inr (0, [.int 0, .ref z.1, .int 0]))] := hD
  refine lv_aload_n hx hb dX9_differs_5 rfl (lv_at hl 0 rfl) ?_
  refine lv_aload_n hx hb dX9_differs_6 rfl (lv_at hl 0 rfl) ?_
  refine lv_iload_n hx hb dX9_differs_7 rfl (lv_at hl 1 rfl) ?_
  have hF2 := va_free (wc := [(h0, .inr (8, [.int 0, .ref h1, .ref h2, .ref h3, .ref h4, .int 0])), (h1, .inr (0, [.int 0, .ref z.1, .int 0])), (h2, .inr (0, [.int 0, .ref z.1, .int 0])), (h3, .inr (0, [.int 0, .ref z.1, .int 0])), (h4, .inr (0, [.int 0, .ref z.1, .int 0]))]) hD hS hA [0, 1, 2, 3, 4] rfl
  refine va_calli (va_runV (As := [.int p0]) (rest := [.ref h0]) ⟨hx, hb, hml, hown, hts⟩ (k95_no l hl9 dC dI z h0 h1 h2 h3 h4 H1.size p0) (cwV 1 hts (gV q_362 q_363 q_364 q_255 q_361) rfl rfl rfl (by decide +kernel) ⟨Nat.le_of_ble_eq_true rfl, Nat.le_of_ble_eq_true rfl⟩) ⟨pc_blind, va_recv hK hP (ci := 8) (q0 := 0) rfl rfl, fun U hU hW => ⟨rfl, pc_mk hP hD hK hS hX hT [0, 1, 2, 3, 4] [] rfl rfl rfl rfl hF2 hU hW⟩⟩ rfl rfl hl.1 rfl (lv_room (Nat.le_of_ble_eq_true rfl)) dX9_differs_8 ⟨(Nat.le_of_ble_eq_true rfl), (Nat.le_of_ble_eq_true rfl)⟩) hS (fun q9 _ h9 => hF2 q9 h9) hF2 (fun r5 u4 t4 H4 L4 ht4 hvm4 hw4 hB4 hz4 hk4 hS => ?_)
  obtain ⟨hP, hD, hK⟩ := pq_join (wr := []) (tr := []) (wz := [(h0, .inr (8, [.int 0, .ref h1, .ref h2, .ref h3, .ref h4, .int 0])), (h1, .inr (0, [.int 0, .ref z.1, .int 0])), (h2, .inr (0, [.int 0, .ref z.1, .int 0])), (h3, .inr (0, [.int 0, .ref z.1, .int 0])), (h4, .inr (0, [.int 0, .ref z.1, .int 0]))]) (tz := []) hP hD hK [0, 1, 2, 3, 4] [] [] rfl rfl (by decide) (by decide) rfl hk4 hF2 hB4 ht4 hvm4 rfl rfl
  refine W.eq (g2 := F0 m 11 ls [.int 1, .ref h0]) (by rw [hw4]) ?_
  refine lv_if_ne (tgt := 22) hx hb dX9_differs_11 (by decide) (fun _ => ?_) (fun cz => absurd cz (by decide))
  refine lv_iconst (v := 1) hx hb dX9_differs_22 (by decide) ?_
  refine lv_goto (tgt := 27) hx hb dX9_differs_23 (by decide) ?_
  refine lv_iconst (v := 1) hx hb dX9_differs_27 (by decide) ?_
  have hF6 := va_free (wc := [(h0, .inr (8, [.int 0, .ref h1, .ref h2, .ref h3, .ref h4, .int 0])), (h1, .inr (0, [.int 0, .ref z.1, .int 0])), (h2, .inr (0, [.int 0, .ref z.1, .int 0])), (h3, .inr (0, [.int 0, .ref z.1, .int 0])), (h4, .inr (0, [.int 0, .ref z.1, .int 0]))]) hD hS hA [0, 1, 2, 3, 4] rfl
  refine va_calli (va_runV (As := [.int 1, .int 1]) (rest := []) ⟨hx, hb, hml, hown, hts⟩ (k93_fails l hl9 dC dI z h0 h1 h2 h3 h4 H4.size) (cwV 2 hts (gV q_257 q_258 q_259 q_255 q_256) rfl rfl rfl (by decide +kernel) ⟨Nat.le_of_ble_eq_true rfl, Nat.le_of_ble_eq_true rfl⟩) ⟨pc_blind, va_recv hK hP (ci := 8) (q0 := 0) rfl rfl, fun U hU hW => ⟨rfl, pc_mk hP hD hK hS hX hT [0, 1, 2, 3, 4] [] rfl rfl rfl rfl hF6 hU hW⟩⟩ rfl rfl hl.1 rfl (lv_room (Nat.le_of_ble_eq_true rfl)) dX9_differs_28 ⟨(Nat.le_of_ble_eq_true rfl), (Nat.le_of_ble_eq_true rfl)⟩) hS (fun q9 _ h9 => hF6 q9 h9) hF6 (fun r9 u8 t8 H8 L8 ht8 hvm8 hw8 hB8 hz8 hk8 hS => ?_)
  obtain ⟨hP, hD, hK⟩ := pq_join (wr := []) (tr := []) (wz := [(h0, .inr (8, [.int 1, .ref h1, .ref h2, .ref h3, .ref h4, .int 0])), (h1, .inr (0, [.int 0, .ref z.1, .int 0])), (h2, .inr (0, [.int 0, .ref z.1, .int 0])), (h3, .inr (0, [.int 0, .ref z.1, .int 0])), (h4, .inr (0, [.int 0, .ref z.1, .int 0]))]) (tz := []) hP hD hK [0, 1, 2, 3, 4] [] [] rfl rfl (by decide) (by decide) rfl hk8 hF6 hB8 ht8 hvm8 rfl rfl
  refine W.eq (g2 := F0 m 31 ls [.int 1]) (by rw [hw8]) ?_
  refine lv_if_eq (tgt := 36) hx hb dX9_differs_31 (by decide) (fun cz => absurd cz (by decide)) (fun _ => ?_)
  refine lv_iconst (v := 0) hx hb dX9_differs_34 (by decide) ?_
  exact W.iret (v := 0) hx hb hr (fun t9 ht9 hW9 => ⟨⟨0, (), rfl, rfl, pq_mk (wc := [(h0, .inr (8, [.int 1, .ref h1, .ref h2, .ref h3, .ref h4, .int 0])), (h1, .inr (0, [.int 0, .ref z.1, .int 0])), (h2, .inr (0, [.int 0, .ref z.1, .int 0])), (h3, .inr (0, [.int 0, .ref z.1, .int 0])), (h4, .inr (0, [.int 0, .ref z.1, .int 0]))]) (tc := []) hP hD hK [0, 1, 2, 3, 4] [] rfl rfl rfl rfl ht9 hW9⟩, hS.F ht9⟩) hS.2.2 dX9_differs_35

set_option maxHeartbeats 4000000 in
set_option maxRecDepth 100000 in
theorem k270_shows (l : Launch) (hl9 : l.stackTraces = false) (dC : Nat → ClassId) (dI : Nat → Nat → Nat) (z : XZ) (h0 h1 h2 h3 h4 h5 h6 h7 h8 : Nat) (sz : Nat) (p0 p1 p2 : Int32) (kc0 : ClassId) : vx_Met l yX6_shows (.code yX6_shows cX6_shows 5 (some .boolean) :: wsL_law) ({ frames := 8, cells := 1, slots := 6, locals := 121 }) (va_Pc [.ref h0, .int p0, .int p1, .int p2] (PC (dC, dI) [(h0, .inr (6, [.ref h1, .ref h2, .ref h3])), (h1, .inr (2, [.ref h4, .ref h5, .ref h6, .ref h7])), (h2, .inr (5, [.ref h1, .int 0])), (h3, .inr (4, [.ref h1, .ref h8, .int 0])), (h4, .inr (0, [.int 0, .ref z.1, .int 0])), (h5, .inr (0, [.int 0, .ref z.1, .int 0])), (h6, .inr (0, [.int 0, .ref z.1, .int 0])), (h7, .inr (0, [.int 0, .ref z.1, .int 0])), (h8, .inl (kc0, 8, .inl (fun _ => 0)))] [(kc0, .int)] sz z)) (va_Qi (fun (_ : Int32) (_ : Unit) => False) (fun _ _ => True) (va_A [(h0, .inr (6, [.ref h1, .ref h2, .ref h3])), (h1, .inr (2, [.ref h4, .ref h5, .ref h6, .ref h7])), (h2, .inr (5, [.ref h1, .int 0])), (h3, .inr (4, [.ref h1, .ref h8, .int 0])), (h4, .inr (0, [.int 0, .ref z.1, .int 0])), (h5, .inr (0, [.int 0, .ref z.1, .int 0])), (h6, .inr (0, [.int 0, .ref z.1, .int 0])), (h7, .inr (0, [.int 0, .ref z.1, .int 0])), (h8, .inl (kc0, 8, .inl (fun _ => 0)))] sz)) (vx_X (fun (_ : Unit) => True) (fun (E : String) (_ : Unit) (_ : State) => E = "java/lang/IndexOutOfBoundsException") (va_A [(h0, .inr (6, [.ref h1, .ref h2, .ref h3])), (h1, .inr (2, [.ref h4, .ref h5, .ref h6, .ref h7])), (h2, .inr (5, [.ref h1, .int 0])), (h3, .inr (4, [.ref h1, .ref h8, .int 0])), (h4, .inr (0, [.int 0, .ref z.1, .int 0])), (h5, .inr (0, [.int 0, .ref z.1, .int 0])), (h6, .inr (0, [.int 0, .ref z.1, .int 0])), (h7, .inr (0, [.int 0, .ref z.1, .int 0])), (h8, .inl (kc0, 8, .inl (fun _ => 0)))] sz)) 1 6 (va_A [(h0, .inr (6, [.ref h1, .ref h2, .ref h3])), (h1, .inr (2, [.ref h4, .ref h5, .ref h6, .ref h7])), (h2, .inr (5, [.ref h1, .int 0])), (h3, .inr (4, [.ref h1, .ref h8, .int 0])), (h4, .inr (0, [.int 0, .ref z.1, .int 0])), (h5, .inr (0, [.int 0, .ref z.1, .int 0])), (h6, .inr (0, [.int 0, .ref z.1, .int 0])), (h7, .inr (0, [.int 0, .ref z.1, .int 0])), (h8, .inl (kc0, 8, .inl (fun _ => 0)))] sz) := by
  refine vx_ofW (cc := cX6_shows) (maxL := 5) (ret := (some .boolean)) (by decide) rfl ?_
  intro p e s m args below meth c s₁ B hml hnt hv
  obtain ⟨rfl, hsz, hP, hK, hD0, hX, hT⟩ := hv
  have hx := B.exec
  have hb := B.bytes
  have hr := B.returns
  have hts0 := atoms_spec (ws := .code yX6_shows cX6_shows 5 (some .boolean) :: wsL_law) B.pre
  have hts := xTail hts0
  have hown : s.vm.findClass RX6 = some m.cls := findClass_of_methodNamed B.named
  have hlocks := B.notSynchronized
  subst hsz
  have hD := hD0.self (sz := s.heap.size)
  generalize hAe : va_A [(h0, .inr (6, [.ref h1, .ref h2, .ref h3])), (h1, .inr (2, [.ref h4, .ref h5, .ref h6, .ref h7])), (h2, .inr (5, [.ref h1, .int 0])), (h3, .inr (4, [.ref h1, .ref h8, .int 0])), (h4, .inr (0, [.int 0, .ref z.1, .int 0])), (h5, .inr (0, [.int 0, .ref z.1, .int 0])), (h6, .inr (0, [.int 0, .ref z.1, .int 0])), (h7, .inr (0, [.int 0, .ref z.1, .int 0])), (h8, .inl (kc0, 8, .inl (fun _ => 0)))] s.heap.size = A at hD hX ⊢
  have hA : ∀ q : Nat, s.heap.size ≤ q → A q := fun q h => by rw [← hAe]; exact Or.inr h
  have hS : va_S A s.heap s.heap [] := va_S.rf
  have hl := lv_entry ([.ref h0, .int p0, .int p1, .int p2]) (n := 5) (Nat.le_of_ble_eq_true rfl)
  rw [lg_entry_eq]
  generalize (lg_sl ([.ref h0, .int p0, .int p1, .int p2]) ++ List.replicate (5 - (lg_sl ([.ref h0, .int p0, .int p1, .int p2])).length) Slot.unset).toArray = ls at hl ⊢
  have hl : lv_has ls 5 [(0, .ref h0), (1, .int p0), (2, .int p1), (3, .int p2)] := hl
  refine lv_aload_n hx hb dX6_shows_0 rfl (lv_at hl 0 rfl) ?_
  refine lv_iload_n hx hb dX6_shows_1 rfl (lv_at hl 1 rfl) ?_
  have hF1 := va_free (wc := [(h0, .inr (6, [.ref h1, .ref h2, .ref h3])), (h1, .inr (2, [.ref h4, .ref h5, .ref h6, .ref h7])), (h2, .inr (5, [.ref h1, .int 0])), (h3, .inr (4, [.ref h1, .ref h8, .int 0])), (h4, .inr (0, [.int 0, .ref z.1, .int 0])), (h5, .inr (0, [.int 0, .ref z.1, .int 0])), (h6, .inr (0, [.int 0, .ref z.1, .int 0])), (h7, .inr (0, [.int 0, .ref z.1, .int 0])), (h8, .inl (kc0, 8, .inl (fun _ => 0)))]) hD hS hA [0, 1, 2, 3, 4, 5, 6, 7, 8] rfl
  refine vx_callq (SX := Unit) (vx_runV (As := [.int p0]) (rest := []) ⟨hx, hb, hml, hown, hts⟩ (k89_netAt l hl9 dC dI z h0 h1 h2 h3 h4 h5 h6 h7 h8 s.heap.size p0 kc0) (cwV 1 hts (gV q_346 q_347 q_348 q_69 q_345) rfl rfl rfl (by decide +kernel) ⟨Nat.le_of_ble_eq_true rfl, Nat.le_of_ble_eq_true rfl⟩) ⟨pc_blind, va_recv hK hP (ci := 6) (q0 := 0) rfl rfl, fun U hU hW => ⟨rfl, pc_mk hP hD hK hS hX hT [0, 1, 2, 3, 4, 5, 6, 7, 8] [0] rfl rfl rfl rfl hF1 hU hW⟩⟩ rfl rfl hl.1 rfl (lv_room (Nat.le_of_ble_eq_true rfl)) dX6_shows_2 ⟨(Nat.le_of_ble_eq_true rfl), (Nat.le_of_ble_eq_true rfl)⟩) hS (fun q9 _ h9 => hF1 q9 h9) hF1 (fun q9 _ h9 => hF1 q9 h9) (fun E3 ce3 x3 v3 t3 H3 L3 ht3 hvm3 hw3 hB3 hz3 hk3 hS hc3 hn3 hf3 => ?_) (fun _ _ _ _ _ _ _ hw9 _ _ _ _ => hw9.elim)
  obtain ⟨hP, hD⟩ := pq_rest (wr := []) hP hD [0, 1, 2, 3, 4, 5, 6, 7, 8] [] rfl rfl (by decide) (by decide) hk3 hF1
  exact vx_out (fun x9 hx9 => (hnt x9 hx9).elim) hlocks hc3 hn3 hf3 (fun t9 ht9 hv9 => ⟨(), trivial, hB3, hS.F ht9⟩) hS.2.2 (by decide) (by decide)

set_option maxHeartbeats 4000000 in
set_option maxRecDepth 100000 in
theorem k271_shows (l : Launch) (hl9 : l.stackTraces = false) (dC : Nat → ClassId) (dI : Nat → Nat → Nat) (z : XZ) (h0 h1 h2 h3 h4 h5 h6 h7 h8 h9 : Nat) (sz : Nat) (p0 p1 p2 : Int32) (kc0 kc1 : ClassId) : Met l yL_shows (.codeWith yL_shows cL_shows 6 (some .int) [(0, 19, 22, 23), (0, 19, 26, 21), (0, 19, 30, 64)] :: wsL_law) ({ frames := 9, cells := 1, slots := 6, locals := 145 }) (va_Pc [.ref h0, .int p0, .int p1, .int p2, .ref h1] (PC (dC, dI) [(h0, .inr (6, [.ref h2, .ref h3, .ref h4])), (h1, .inl (kc0, 1, .inr (.inl (fun _ => 0)))), (h2, .inr (2, [.ref h5, .ref h6, .ref h7, .ref h8])), (h3, .inr (5, [.ref h2, .int 0])), (h4, .inr (4, [.ref h2, .ref h9, .int 0])), (h5, .inr (0, [.int 0, .ref z.1, .int 0])), (h6, .inr (0, [.int 0, .ref z.1, .int 0])), (h7, .inr (0, [.int 0, .ref z.1, .int 0])), (h8, .inr (0, [.int 0, .ref z.1, .int 0])), (h9, .inl (kc1, 8, .inl (fun _ => 0)))] [(kc0, .long), (kc1, .int)] sz z)) (va_Qi (fun (r : Int32) (_ : Unit) => r = 1) (fun (_ : Unit) (t : State) => PQ (dC, dI) [(h1, .inl (kc0, 1, .inr (.inl (fun _ => 0))))] [(kc0, .long)] (va_A [(h0, .inr (6, [.ref h2, .ref h3, .ref h4])), (h1, .inl (kc0, 1, .inr (.inl (fun _ => 0)))), (h2, .inr (2, [.ref h5, .ref h6, .ref h7, .ref h8])), (h3, .inr (5, [.ref h2, .int 0])), (h4, .inr (4, [.ref h2, .ref h9, .int 0])), (h5, .inr (0, [.int 0, .ref z.1, .int 0])), (h6, .inr (0, [.int 0, .ref z.1, .int 0])), (h7, .inr (0, [.int 0, .ref z.1, .int 0])), (h8, .inr (0, [.int 0, .ref z.1, .int 0])), (h9, .inl (kc1, 8, .inl (fun _ => 0)))] sz) t) (va_A [(h0, .inr (6, [.ref h2, .ref h3, .ref h4])), (h1, .inl (kc0, 1, .inr (.inl (fun _ => 0)))), (h2, .inr (2, [.ref h5, .ref h6, .ref h7, .ref h8])), (h3, .inr (5, [.ref h2, .int 0])), (h4, .inr (4, [.ref h2, .ref h9, .int 0])), (h5, .inr (0, [.int 0, .ref z.1, .int 0])), (h6, .inr (0, [.int 0, .ref z.1, .int 0])), (h7, .inr (0, [.int 0, .ref z.1, .int 0])), (h8, .inr (0, [.int 0, .ref z.1, .int 0])), (h9, .inl (kc1, 8, .inl (fun _ => 0)))] sz)) 1 6 (va_A [(h0, .inr (6, [.ref h2, .ref h3, .ref h4])), (h1, .inl (kc0, 1, .inr (.inl (fun _ => 0)))), (h2, .inr (2, [.ref h5, .ref h6, .ref h7, .ref h8])), (h3, .inr (5, [.ref h2, .int 0])), (h4, .inr (4, [.ref h2, .ref h9, .int 0])), (h5, .inr (0, [.int 0, .ref z.1, .int 0])), (h6, .inr (0, [.int 0, .ref z.1, .int 0])), (h7, .inr (0, [.int 0, .ref z.1, .int 0])), (h8, .inr (0, [.int 0, .ref z.1, .int 0])), (h9, .inl (kc1, 8, .inl (fun _ => 0)))] sz) := by
  refine va_MetW (cc := cL_shows) (maxL := 6) (ret := (some .int)) (hh := [(0, 19, 22, 23), (0, 19, 26, 21), (0, 19, 30, 64)]) (by decide) rfl ?_
  intro p e s m args below meth c s₁ B hml hv
  obtain ⟨rfl, hsz, hP, hK, hD0, hX, hT⟩ := hv
  have hx := B.exec
  have hb := B.bytes
  have hr := B.returns
  have hts0 := atoms_spec (ws := .codeWith yL_shows cL_shows 6 (some .int) [(0, 19, 22, 23), (0, 19, 26, 21), (0, 19, 30, 64)] :: wsL_law) B.pre
  have htab := vx_table (x := yL_shows) B (hts0 _ List.mem_cons_self)
  have hts := xTail hts0
  have hown : s.vm.findClass RL = some m.cls := findClass_of_methodNamed B.named
  have hlocks := B.notSynchronized
  subst hsz
  have hD := hD0.self (sz := s.heap.size)
  generalize hAe : va_A [(h0, .inr (6, [.ref h2, .ref h3, .ref h4])), (h1, .inl (kc0, 1, .inr (.inl (fun _ => 0)))), (h2, .inr (2, [.ref h5, .ref h6, .ref h7, .ref h8])), (h3, .inr (5, [.ref h2, .int 0])), (h4, .inr (4, [.ref h2, .ref h9, .int 0])), (h5, .inr (0, [.int 0, .ref z.1, .int 0])), (h6, .inr (0, [.int 0, .ref z.1, .int 0])), (h7, .inr (0, [.int 0, .ref z.1, .int 0])), (h8, .inr (0, [.int 0, .ref z.1, .int 0])), (h9, .inl (kc1, 8, .inl (fun _ => 0)))] s.heap.size = A at hD hX ⊢
  have hA : ∀ q : Nat, s.heap.size ≤ q → A q := fun q h => by rw [← hAe]; exact Or.inr h
  have hS : va_S A s.heap s.heap [] := va_S.rf
  have hl := lv_entry ([.ref h0, .int p0, .int p1, .int p2, .ref h1]) (n := 6) (Nat.le_of_ble_eq_true rfl)
  rw [lg_entry_eq]
  generalize (lg_sl ([.ref h0, .int p0, .int p1, .int p2, .ref h1]) ++ List.replicate (6 - (lg_sl ([.ref h0, .int p0, .int p1, .int p2, .ref h1])).length) Slot.unset).toArray = ls at hl ⊢
  have hl : lv_has ls 6 [(0, .ref h0), (1, .int p0), (2, .int p1), (3, .int p2), (4, .ref h1)] := hl
  refine lv_aload hx hb dL_shows_0 (lv_at hl 4 rfl) ?_
  refine lv_iconst (v := 0) hx hb dL_shows_2 (by decide) ?_
  refine lv_aload_n hx hb dL_shows_3 rfl (lv_at hl 0 rfl) ?_
  refine lv_iload_n hx hb dL_shows_4 rfl (lv_at hl 1 rfl) ?_
  refine lv_iload_n hx hb dL_shows_5 rfl (lv_at hl 2 rfl) ?_
  refine lv_iload_n hx hb dL_shows_6 rfl (lv_at hl 3 rfl) ?_
  have hF1 := va_free (wc := [(h0, .inr (6, [.ref h2, .ref h3, .ref h4])), (h2, .inr (2, [.ref h5, .ref h6, .ref h7, .ref h8])), (h3, .inr (5, [.ref h2, .int 0])), (h4, .inr (4, [.ref h2, .ref h9, .int 0])), (h5, .inr (0, [.int 0, .ref z.1, .int 0])), (h6, .inr (0, [.int 0, .ref z.1, .int 0])), (h7, .inr (0, [.int 0, .ref z.1, .int 0])), (h8, .inr (0, [.int 0, .ref z.1, .int 0])), (h9, .inl (kc1, 8, .inl (fun _ => 0)))]) hD hS hA [0, 2, 3, 4, 5, 6, 7, 8, 9] rfl
  refine vx_calli (SX := Unit) (vx_runV (As := [.int p0, .int p1, .int p2]) (rest := [.int 0, .ref h1]) ⟨hx, hb, hml, hown, hts⟩ (k270_shows l hl9 dC dI z h0 h2 h3 h4 h5 h6 h7 h8 h9 s.heap.size p0 p1 p2 kc1) (cwV 3 hts (gV q_616 q_617 q_618 q_69 q_615) rfl rfl rfl (by decide +kernel) ⟨Nat.le_of_ble_eq_true rfl, Nat.le_of_ble_eq_true rfl⟩) ⟨pc_blind, va_recv hK hP (ci := 6) (q0 := 0) rfl rfl, fun U hU hW => ⟨rfl, pc_mk hP hD hK hS hX hT [0, 2, 3, 4, 5, 6, 7, 8, 9] [1] rfl rfl rfl rfl hF1 hU hW⟩⟩ rfl rfl hl.1 rfl (lv_room (Nat.le_of_ble_eq_true rfl)) dL_shows_7 ⟨(Nat.le_of_ble_eq_true rfl), (Nat.le_of_ble_eq_true rfl)⟩) hS (fun q9 _ h9 => hF1 q9 h9) hF1 (fun q9 _ h9 => hF1 q9 h9) (fun E3 ce3 x3 v3 t3 H3 L3 ht3 hvm3 hw3 hB3 hz3 hk3 hS hc3 hn3 hf3 => ?_) (fun _ _ _ _ _ _ _ hw9 _ _ _ _ => hw9.elim)
  obtain ⟨hP, hD⟩ := pq_rest (wr := [(h1, .inl (kc0, 1, .inr (.inl (fun _ => 0))))]) hP hD [0, 2, 3, 4, 5, 6, 7, 8, 9] [1] rfl rfl (by decide) (by decide) hk3 hF1
  subst hB3
  refine vx_catch (own := RL) (name := "java/lang/IndexOutOfBoundsException") hown [] ⟨0, 19, 22, 23⟩ [⟨0, 19, 26, 21⟩, ⟨0, 19, 30, 64⟩] htab (fun z9 hz9 => absurd hz9 List.not_mem_nil) (by decide) (by decide) (hts _ q_354) (va_Nw.use rfl (hT.2.1.1 ("java/lang/IndexOutOfBoundsException", "java/lang/IndexOutOfBoundsException") (by decide))) hc3 hn3 hf3 ?_
  refine lv_astore (lv' := [(5, .ref x3), (0, .ref h0), (1, .int p0), (2, .int p1), (3, .int p2), (4, .ref h1)]) hx hb dL_shows_22 hl (by decide) rfl (fun ls hl => ?_)
  refine lv_iconst (v := 1) hx hb dL_shows_24 (by decide) ?_
  exact W.iret (v := 1) hx hb hr (fun t9 ht9 hW9 => ⟨⟨1, (), rfl, rfl, pq_mk (wc := [(h1, .inl (kc0, 1, .inr (.inl (fun _ => 0))))]) (tc := [(kc0, .long)]) hP hD hK [0] [0] rfl rfl rfl rfl ht9 hW9⟩, hS.F ht9⟩) hS.2.2 dL_shows_25

set_option maxHeartbeats 4000000 in
set_option maxRecDepth 100000 in
theorem k272_cannot (l : Launch) (hl9 : l.stackTraces = false) (dC : Nat → ClassId) (dI : Nat → Nat → Nat) (z : XZ) (h0 h1 h2 h3 h4 : Nat) (sz : Nat) (p0 p1 : Int32) : Met l yX9_cannot (.code yX9_cannot cX9_cannot 3 (some .boolean) :: wsL_law) ({ frames := 2, cells := 0, slots := 0, locals := 43 }) (va_Pc [.ref h0, .int p0, .int p1] (PC (dC, dI) [(h0, .inr (8, [.int 0, .ref h1, .ref h2, .ref h3, .ref h4, .int 0])), (h1, .inr (0, [.int 0, .ref z.1, .int 0])), (h2, .inr (0, [.int 0, .ref z.1, .int 0])), (h3, .inr (0, [.int 0, .ref z.1, .int 0])), (h4, .inr (0, [.int 0, .ref z.1, .int 0]))] [] sz z)) (va_Qi (fun (r : Int32) (_ : Unit) => r = 1) (fun (_ : Unit) (t : State) => PQ (dC, dI) [(h0, .inr (8, [.int 1, .ref h1, .ref h2, .ref h3, .ref h4, .int 0])), (h1, .inr (0, [.int 0, .ref z.1, .int 0])), (h2, .inr (0, [.int 0, .ref z.1, .int 0])), (h3, .inr (0, [.int 0, .ref z.1, .int 0])), (h4, .inr (0, [.int 0, .ref z.1, .int 0]))] [] (va_A [(h0, .inr (8, [.int 0, .ref h1, .ref h2, .ref h3, .ref h4, .int 0])), (h1, .inr (0, [.int 0, .ref z.1, .int 0])), (h2, .inr (0, [.int 0, .ref z.1, .int 0])), (h3, .inr (0, [.int 0, .ref z.1, .int 0])), (h4, .inr (0, [.int 0, .ref z.1, .int 0]))] sz) t) (va_A [(h0, .inr (8, [.int 0, .ref h1, .ref h2, .ref h3, .ref h4, .int 0])), (h1, .inr (0, [.int 0, .ref z.1, .int 0])), (h2, .inr (0, [.int 0, .ref z.1, .int 0])), (h3, .inr (0, [.int 0, .ref z.1, .int 0])), (h4, .inr (0, [.int 0, .ref z.1, .int 0]))] sz)) 0 0 (va_A [(h0, .inr (8, [.int 0, .ref h1, .ref h2, .ref h3, .ref h4, .int 0])), (h1, .inr (0, [.int 0, .ref z.1, .int 0])), (h2, .inr (0, [.int 0, .ref z.1, .int 0])), (h3, .inr (0, [.int 0, .ref z.1, .int 0])), (h4, .inr (0, [.int 0, .ref z.1, .int 0]))] sz) := by
  refine Met.ofW (cc := cX9_cannot) (maxL := 3) (ret := (some .boolean)) (by decide) rfl ?_
  intro p e s m args below meth c s₁ B hml hv
  obtain ⟨rfl, hsz, hP, hK, hD0, hX, hT⟩ := hv
  have hx := B.exec
  have hb := B.bytes
  have hr := B.returns
  have hts0 := atoms_spec (ws := .code yX9_cannot cX9_cannot 3 (some .boolean) :: wsL_law) B.pre
  have hts := xTail hts0
  have hown : s.vm.findClass RX9 = some m.cls := findClass_of_methodNamed B.named
  have hlocks := B.notSynchronized
  subst hsz
  have hD := hD0.self (sz := s.heap.size)
  generalize hAe : va_A [(h0, .inr (8, [.int 0, .ref h1, .ref h2, .ref h3, .ref h4, .int 0])), (h1, .inr (0, [.int 0, .ref z.1, .int 0])), (h2, .inr (0, [.int 0, .ref z.1, .int 0])), (h3, .inr (0, [.int 0, .ref z.1, .int 0])), (h4, .inr (0, [.int 0, .ref z.1, .int 0]))] s.heap.size = A at hD hX ⊢
  have hA : ∀ q : Nat, s.heap.size ≤ q → A q := fun q h => by rw [← hAe]; exact Or.inr h
  have hS : va_S A s.heap s.heap [] := va_S.rf
  have hl := lv_entry ([.ref h0, .int p0, .int p1]) (n := 3) (Nat.le_of_ble_eq_true rfl)
  rw [lg_entry_eq]
  generalize (lg_sl ([.ref h0, .int p0, .int p1]) ++ List.replicate (3 - (lg_sl ([.ref h0, .int p0, .int p1])).length) Slot.unset).toArray = ls at hl ⊢
  have hl : lv_has ls 3 [(0, .ref h0), (1, .int p0), (2, .int p1)] := hl
  refine lv_aload_n hx hb dX9_cannot_0 rfl (lv_at hl 0 rfl) ?_
  refine lv_aload_n hx hb dX9_cannot_1 rfl (lv_at hl 0 rfl) ?_
  refine lv_iload_n hx hb dX9_cannot_2 rfl (lv_at hl 1 rfl) ?_
  have hF1 := va_free (wc := [(h0, .inr (8, [.int 0, .ref h1, .ref h2, .ref h3, .ref h4, .int 0])), (h1, .inr (0, [.int 0, .ref z.1, .int 0])), (h2, .inr (0, [.int 0, .ref z.1, .int 0])), (h3, .inr (0, [.int 0, .ref z.1, .int 0])), (h4, .inr (0, [.int 0, .ref z.1, .int 0]))]) hD hS hA [0, 1, 2, 3, 4] rfl
  refine va_calli (va_runV (As := [.int p0]) (rest := [.ref h0]) ⟨hx, hb, hml, hown, hts⟩ (k95_no l hl9 dC dI z h0 h1 h2 h3 h4 s.heap.size p0) (cwV 1 hts (gV q_362 q_363 q_364 q_255 q_361) rfl rfl rfl (by decide +kernel) ⟨Nat.le_of_ble_eq_true rfl, Nat.le_of_ble_eq_true rfl⟩) ⟨pc_blind, va_recv hK hP (ci := 8) (q0 := 0) rfl rfl, fun U hU hW => ⟨rfl, pc_mk hP hD hK hS hX hT [0, 1, 2, 3, 4] [] rfl rfl rfl rfl hF1 hU hW⟩⟩ rfl rfl hl.1 rfl (lv_room (Nat.le_of_ble_eq_true rfl)) dX9_cannot_3 ⟨(Nat.le_of_ble_eq_true rfl), (Nat.le_of_ble_eq_true rfl)⟩) hS (fun q9 _ h9 => hF1 q9 h9) hF1 (fun r4 u3 t3 H3 L3 ht3 hvm3 hw3 hB3 hz3 hk3 hS => ?_)
  obtain ⟨hP, hD, hK⟩ := pq_join (wr := []) (tr := []) (wz := [(h0, .inr (8, [.int 0, .ref h1, .ref h2, .ref h3, .ref h4, .int 0])), (h1, .inr (0, [.int 0, .ref z.1, .int 0])), (h2, .inr (0, [.int 0, .ref z.1, .int 0])), (h3, .inr (0, [.int 0, .ref z.1, .int 0])), (h4, .inr (0, [.int 0, .ref z.1, .int 0]))]) (tz := []) hP hD hK [0, 1, 2, 3, 4] [] [] rfl rfl (by decide) (by decide) rfl hk3 hF1 hB3 ht3 hvm3 rfl rfl
  refine W.eq (g2 := F0 m 6 ls [.int 1, .ref h0]) (by rw [hw3]) ?_
  refine lv_iconst (v := 1) hx hb dX9_cannot_6 (by decide) ?_
  have hF5 := va_free (wc := [(h0, .inr (8, [.int 0, .ref h1, .ref h2, .ref h3, .ref h4, .int 0])), (h1, .inr (0, [.int 0, .ref z.1, .int 0])), (h2, .inr (0, [.int 0, .ref z.1, .int 0])), (h3, .inr (0, [.int 0, .ref z.1, .int 0])), (h4, .inr (0, [.int 0, .ref z.1, .int 0]))]) hD hS hA [0, 1, 2, 3, 4] rfl
  refine va_calli (va_runV (As := [.int 1, .int 1]) (rest := []) ⟨hx, hb, hml, hown, hts⟩ (k93_fails l hl9 dC dI z h0 h1 h2 h3 h4 H3.size) (cwV 2 hts (gV q_257 q_258 q_259 q_255 q_256) rfl rfl rfl (by decide +kernel) ⟨Nat.le_of_ble_eq_true rfl, Nat.le_of_ble_eq_true rfl⟩) ⟨pc_blind, va_recv hK hP (ci := 8) (q0 := 0) rfl rfl, fun U hU hW => ⟨rfl, pc_mk hP hD hK hS hX hT [0, 1, 2, 3, 4] [] rfl rfl rfl rfl hF5 hU hW⟩⟩ rfl rfl hl.1 rfl (lv_room (Nat.le_of_ble_eq_true rfl)) dX9_cannot_7 ⟨(Nat.le_of_ble_eq_true rfl), (Nat.le_of_ble_eq_true rfl)⟩) hS (fun q9 _ h9 => hF5 q9 h9) hF5 (fun r8 u7 t7 H7 L7 ht7 hvm7 hw7 hB7 hz7 hk7 hS => ?_)
  obtain ⟨hP, hD, hK⟩ := pq_join (wr := []) (tr := []) (wz := [(h0, .inr (8, [.int 1, .ref h1, .ref h2, .ref h3, .ref h4, .int 0])), (h1, .inr (0, [.int 0, .ref z.1, .int 0])), (h2, .inr (0, [.int 0, .ref z.1, .int 0])), (h3, .inr (0, [.int 0, .ref z.1, .int 0])), (h4, .inr (0, [.int 0, .ref z.1, .int 0]))]) (tz := []) hP hD hK [0, 1, 2, 3, 4] [] [] rfl rfl (by decide) (by decide) rfl hk7 hF5 hB7 ht7 hvm7 rfl rfl
  refine W.eq (g2 := F0 m 10 ls [.int 1]) (by rw [hw7]) ?_
  refine lv_if_ne (tgt := 38) hx hb dX9_cannot_10 (by decide) (fun _ => ?_) (fun cz => absurd cz (by decide))
  refine lv_iconst (v := 1) hx hb dX9_cannot_38 (by decide) ?_
  refine lv_goto (tgt := 43) hx hb dX9_cannot_39 (by decide) ?_
  exact W.zret (v := 1) (ty := .boolean) hx hb hr rfl (fun t9 ht9 hW9 => ⟨⟨1, (), rfl, rfl, pq_mk (wc := [(h0, .inr (8, [.int 1, .ref h1, .ref h2, .ref h3, .ref h4, .int 0])), (h1, .inr (0, [.int 0, .ref z.1, .int 0])), (h2, .inr (0, [.int 0, .ref z.1, .int 0])), (h3, .inr (0, [.int 0, .ref z.1, .int 0])), (h4, .inr (0, [.int 0, .ref z.1, .int 0]))]) (tc := []) hP hD hK [0, 1, 2, 3, 4] [] rfl rfl rfl rfl ht9 hW9⟩, hS.F ht9⟩) hS.2.2 dX9_cannot_43

set_option maxHeartbeats 4000000 in
set_option maxRecDepth 100000 in
theorem k273_shows (l : Launch) (hl9 : l.stackTraces = false) (dC : Nat → ClassId) (dI : Nat → Nat → Nat) (z : XZ) (h0 h1 h2 h3 h4 : Nat) (sz : Nat) (p0 p1 p2 : Int32) : Met l yX9_shows (.code yX9_shows cX9_shows 4 (some .boolean) :: wsL_law) ({ frames := 3, cells := 0, slots := 0, locals := 65 }) (va_Pc [.ref h0, .int p0, .int p1, .int p2] (PC (dC, dI) [(h0, .inr (8, [.int 0, .ref h1, .ref h2, .ref h3, .ref h4, .int 0])), (h1, .inr (0, [.int 0, .ref z.1, .int 0])), (h2, .inr (0, [.int 0, .ref z.1, .int 0])), (h3, .inr (0, [.int 0, .ref z.1, .int 0])), (h4, .inr (0, [.int 0, .ref z.1, .int 0]))] [] sz z)) (va_Qi (fun (r : Int32) (_ : Unit) => r = 0) (fun (_ : Unit) (t : State) => PQ (dC, dI) [(h0, .inr (8, [.int 1, .ref h1, .ref h2, .ref h3, .ref h4, .int 0])), (h1, .inr (0, [.int 0, .ref z.1, .int 0])), (h2, .inr (0, [.int 0, .ref z.1, .int 0])), (h3, .inr (0, [.int 0, .ref z.1, .int 0])), (h4, .inr (0, [.int 0, .ref z.1, .int 0]))] [] (va_A [(h0, .inr (8, [.int 0, .ref h1, .ref h2, .ref h3, .ref h4, .int 0])), (h1, .inr (0, [.int 0, .ref z.1, .int 0])), (h2, .inr (0, [.int 0, .ref z.1, .int 0])), (h3, .inr (0, [.int 0, .ref z.1, .int 0])), (h4, .inr (0, [.int 0, .ref z.1, .int 0]))] sz) t) (va_A [(h0, .inr (8, [.int 0, .ref h1, .ref h2, .ref h3, .ref h4, .int 0])), (h1, .inr (0, [.int 0, .ref z.1, .int 0])), (h2, .inr (0, [.int 0, .ref z.1, .int 0])), (h3, .inr (0, [.int 0, .ref z.1, .int 0])), (h4, .inr (0, [.int 0, .ref z.1, .int 0]))] sz)) 0 0 (va_A [(h0, .inr (8, [.int 0, .ref h1, .ref h2, .ref h3, .ref h4, .int 0])), (h1, .inr (0, [.int 0, .ref z.1, .int 0])), (h2, .inr (0, [.int 0, .ref z.1, .int 0])), (h3, .inr (0, [.int 0, .ref z.1, .int 0])), (h4, .inr (0, [.int 0, .ref z.1, .int 0]))] sz) := by
  refine Met.ofW (cc := cX9_shows) (maxL := 4) (ret := (some .boolean)) (by decide) rfl ?_
  intro p e s m args below meth c s₁ B hml hv
  obtain ⟨rfl, hsz, hP, hK, hD0, hX, hT⟩ := hv
  have hx := B.exec
  have hb := B.bytes
  have hr := B.returns
  have hts0 := atoms_spec (ws := .code yX9_shows cX9_shows 4 (some .boolean) :: wsL_law) B.pre
  have hts := xTail hts0
  have hown : s.vm.findClass RX9 = some m.cls := findClass_of_methodNamed B.named
  have hlocks := B.notSynchronized
  subst hsz
  have hD := hD0.self (sz := s.heap.size)
  generalize hAe : va_A [(h0, .inr (8, [.int 0, .ref h1, .ref h2, .ref h3, .ref h4, .int 0])), (h1, .inr (0, [.int 0, .ref z.1, .int 0])), (h2, .inr (0, [.int 0, .ref z.1, .int 0])), (h3, .inr (0, [.int 0, .ref z.1, .int 0])), (h4, .inr (0, [.int 0, .ref z.1, .int 0]))] s.heap.size = A at hD hX ⊢
  have hA : ∀ q : Nat, s.heap.size ≤ q → A q := fun q h => by rw [← hAe]; exact Or.inr h
  have hS : va_S A s.heap s.heap [] := va_S.rf
  have hl := lv_entry ([.ref h0, .int p0, .int p1, .int p2]) (n := 4) (Nat.le_of_ble_eq_true rfl)
  rw [lg_entry_eq]
  generalize (lg_sl ([.ref h0, .int p0, .int p1, .int p2]) ++ List.replicate (4 - (lg_sl ([.ref h0, .int p0, .int p1, .int p2])).length) Slot.unset).toArray = ls at hl ⊢
  have hl : lv_has ls 4 [(0, .ref h0), (1, .int p0), (2, .int p1), (3, .int p2)] := hl
  refine lv_aload_n hx hb dX9_shows_0 rfl (lv_at hl 0 rfl) ?_
  refine lv_iconst (v := 0) hx hb dX9_shows_1 (by decide) ?_
  refine va_put (D := (dC, dI)) (ci := 8) (v := .int 0) (ty := .int) (C := RX9) (T := TX9) (N := 6) hx hb hts in_X9 tyX9 tyX9_ok nmX9 hown hK hP hD hS 0 rfl rfl 0 (by decide) (hts _ q_230) (fun _ h9 => h9) rfl (by decide +kernel) rfl rfl (Nat.le_of_ble_eq_true rfl) dX9_shows_2 (fun H1 _ hP hD hS => ?_)
  have hP : va_P (dC, dI) xCl [(h0, .inr (8, [.int 0, .ref h1, .ref h2, .ref h3, .ref h4, .int 0])), (h1, .inr (0, [.int 0, .ref z.1, .int 0])), (h2, .inr (0, [.int 0, .ref z.1, .int 0])), (h3, .inr (0, [.int 0, .ref z.1, .int 0])), (h4, .inr (0, [.int 0, .ref z.1, .int 0]))] H1 := hP
  have hD : va_D A [(h0, .inr (8, [.int 0, .ref h1, .ref h2, .ref h3, .ref h4, .int 0])), (h1, .inr (0, [.int 0, .ref z.1, .int 0])), (h2, .inr (0, [.int 0, .ref z.1, .int 0])), (h3, .inr (0, [.int 0, .ref z.1, .int 0])), (h4, .inr (0, [.int 0, .ref z.1, .int 0]))] := hD
  refine lv_aload_n hx hb dX9_shows_5 rfl (lv_at hl 0 rfl) ?_
  refine lv_iload_n hx hb dX9_shows_6 rfl (lv_at hl 1 rfl) ?_
  refine lv_iload_n hx hb dX9_shows_7 rfl (lv_at hl 2 rfl) ?_
  have hF2 := va_free (wc := [(h0, .inr (8, [.int 0, .ref h1, .ref h2, .ref h3, .ref h4, .int 0])), (h1, .inr (0, [.int 0, .ref z.1, .int 0])), (h2, .inr (0, [.int 0, .ref z.1, .int 0])), (h3, .inr (0, [.int 0, .ref z.1, .int 0])), (h4, .inr (0, [.int 0, .ref z.1, .int 0]))]) hD hS hA [0, 1, 2, 3, 4] rfl
  refine va_calli (va_runV (As := [.int p0, .int p1]) (rest := []) ⟨hx, hb, hml, hown, hts⟩ (k272_cannot l hl9 dC dI z h0 h1 h2 h3 h4 H1.size p0 p1) (cwV 2 hts (gV q_623 q_624 q_625 q_255 q_622) rfl rfl rfl (by decide +kernel) ⟨Nat.le_of_ble_eq_true rfl, Nat.le_of_ble_eq_true rfl⟩) ⟨pc_blind, va_recv hK hP (ci := 8) (q0 := 0) rfl rfl, fun U hU hW => ⟨rfl, pc_mk hP hD hK hS hX hT [0, 1, 2, 3, 4] [] rfl rfl rfl rfl hF2 hU hW⟩⟩ rfl rfl hl.1 rfl (lv_room (Nat.le_of_ble_eq_true rfl)) dX9_shows_8 ⟨(Nat.le_of_ble_eq_true rfl), (Nat.le_of_ble_eq_true rfl)⟩) hS (fun q9 _ h9 => hF2 q9 h9) hF2 (fun r5 u4 t4 H4 L4 ht4 hvm4 hw4 hB4 hz4 hk4 hS => ?_)
  obtain ⟨hP, hD, hK⟩ := pq_join (wr := []) (tr := []) (wz := [(h0, .inr (8, [.int 1, .ref h1, .ref h2, .ref h3, .ref h4, .int 0])), (h1, .inr (0, [.int 0, .ref z.1, .int 0])), (h2, .inr (0, [.int 0, .ref z.1, .int 0])), (h3, .inr (0, [.int 0, .ref z.1, .int 0])), (h4, .inr (0, [.int 0, .ref z.1, .int 0]))]) (tz := []) hP hD hK [0, 1, 2, 3, 4] [] [] rfl rfl (by decide) (by decide) rfl hk4 hF2 hB4 ht4 hvm4 rfl rfl
  refine W.eq (g2 := F0 m 11 ls [.int 1]) (by rw [hw4]) ?_
  refine lv_if_ne (tgt := 55) hx hb dX9_shows_11 (by decide) (fun _ => ?_) (fun cz => absurd cz (by decide))
  refine lv_iconst (v := 0) hx hb dX9_shows_55 (by decide) ?_
  exact W.zret (v := 0) (ty := .boolean) hx hb hr rfl (fun t9 ht9 hW9 => ⟨⟨0, (), rfl, rfl, pq_mk (wc := [(h0, .inr (8, [.int 1, .ref h1, .ref h2, .ref h3, .ref h4, .int 0])), (h1, .inr (0, [.int 0, .ref z.1, .int 0])), (h2, .inr (0, [.int 0, .ref z.1, .int 0])), (h3, .inr (0, [.int 0, .ref z.1, .int 0])), (h4, .inr (0, [.int 0, .ref z.1, .int 0]))]) (tc := []) hP hD hK [0, 1, 2, 3, 4] [] rfl rfl rfl rfl ht9 hW9⟩, hS.F ht9⟩) hS.2.2 dX9_shows_56

set_option maxHeartbeats 4000000 in
set_option maxRecDepth 100000 in
theorem k274_findTest (l : Launch) (hl9 : l.stackTraces = false) (dC : Nat → ClassId) (dI : Nat → Nat → Nat) (z : XZ) (h0 h1 h2 h3 h4 h5 h6 h7 h8 : Nat) (sz : Nat) (p0 p1 : Int32) (kc0 : ClassId) : vx_Met l yX6_findTest (.code yX6_findTest cX6_findTest 5 (some .int) :: wsL_law) ({ frames := 8, cells := 1, slots := 6, locals := 121 }) (va_Pc [.ref h0, .int p0, .int p1] (PC (dC, dI) [(h0, .inr (6, [.ref h1, .ref h2, .ref h3])), (h1, .inr (2, [.ref h4, .ref h5, .ref h6, .ref h7])), (h2, .inr (5, [.ref h1, .int 0])), (h3, .inr (4, [.ref h1, .ref h8, .int 0])), (h4, .inr (0, [.int 0, .ref z.1, .int 0])), (h5, .inr (0, [.int 0, .ref z.1, .int 0])), (h6, .inr (0, [.int 0, .ref z.1, .int 0])), (h7, .inr (0, [.int 0, .ref z.1, .int 0])), (h8, .inl (kc0, 8, .inl (fun _ => 0)))] [(kc0, .int)] sz z)) (va_Qi (fun (_ : Int32) (_ : Unit) => False) (fun _ _ => True) (va_A [(h0, .inr (6, [.ref h1, .ref h2, .ref h3])), (h1, .inr (2, [.ref h4, .ref h5, .ref h6, .ref h7])), (h2, .inr (5, [.ref h1, .int 0])), (h3, .inr (4, [.ref h1, .ref h8, .int 0])), (h4, .inr (0, [.int 0, .ref z.1, .int 0])), (h5, .inr (0, [.int 0, .ref z.1, .int 0])), (h6, .inr (0, [.int 0, .ref z.1, .int 0])), (h7, .inr (0, [.int 0, .ref z.1, .int 0])), (h8, .inl (kc0, 8, .inl (fun _ => 0)))] sz)) (vx_X (fun (_ : Unit) => True) (fun (E : String) (_ : Unit) (_ : State) => E = "java/lang/IndexOutOfBoundsException") (va_A [(h0, .inr (6, [.ref h1, .ref h2, .ref h3])), (h1, .inr (2, [.ref h4, .ref h5, .ref h6, .ref h7])), (h2, .inr (5, [.ref h1, .int 0])), (h3, .inr (4, [.ref h1, .ref h8, .int 0])), (h4, .inr (0, [.int 0, .ref z.1, .int 0])), (h5, .inr (0, [.int 0, .ref z.1, .int 0])), (h6, .inr (0, [.int 0, .ref z.1, .int 0])), (h7, .inr (0, [.int 0, .ref z.1, .int 0])), (h8, .inl (kc0, 8, .inl (fun _ => 0)))] sz)) 1 6 (va_A [(h0, .inr (6, [.ref h1, .ref h2, .ref h3])), (h1, .inr (2, [.ref h4, .ref h5, .ref h6, .ref h7])), (h2, .inr (5, [.ref h1, .int 0])), (h3, .inr (4, [.ref h1, .ref h8, .int 0])), (h4, .inr (0, [.int 0, .ref z.1, .int 0])), (h5, .inr (0, [.int 0, .ref z.1, .int 0])), (h6, .inr (0, [.int 0, .ref z.1, .int 0])), (h7, .inr (0, [.int 0, .ref z.1, .int 0])), (h8, .inl (kc0, 8, .inl (fun _ => 0)))] sz) := by
  refine vx_ofW (cc := cX6_findTest) (maxL := 5) (ret := (some .int)) (by decide) rfl ?_
  intro p e s m args below meth c s₁ B hml hnt hv
  obtain ⟨rfl, hsz, hP, hK, hD0, hX, hT⟩ := hv
  have hx := B.exec
  have hb := B.bytes
  have hr := B.returns
  have hts0 := atoms_spec (ws := .code yX6_findTest cX6_findTest 5 (some .int) :: wsL_law) B.pre
  have hts := xTail hts0
  have hown : s.vm.findClass RX6 = some m.cls := findClass_of_methodNamed B.named
  have hlocks := B.notSynchronized
  subst hsz
  have hD := hD0.self (sz := s.heap.size)
  generalize hAe : va_A [(h0, .inr (6, [.ref h1, .ref h2, .ref h3])), (h1, .inr (2, [.ref h4, .ref h5, .ref h6, .ref h7])), (h2, .inr (5, [.ref h1, .int 0])), (h3, .inr (4, [.ref h1, .ref h8, .int 0])), (h4, .inr (0, [.int 0, .ref z.1, .int 0])), (h5, .inr (0, [.int 0, .ref z.1, .int 0])), (h6, .inr (0, [.int 0, .ref z.1, .int 0])), (h7, .inr (0, [.int 0, .ref z.1, .int 0])), (h8, .inl (kc0, 8, .inl (fun _ => 0)))] s.heap.size = A at hD hX ⊢
  have hA : ∀ q : Nat, s.heap.size ≤ q → A q := fun q h => by rw [← hAe]; exact Or.inr h
  have hS : va_S A s.heap s.heap [] := va_S.rf
  have hl := lv_entry ([.ref h0, .int p0, .int p1]) (n := 5) (Nat.le_of_ble_eq_true rfl)
  rw [lg_entry_eq]
  generalize (lg_sl ([.ref h0, .int p0, .int p1]) ++ List.replicate (5 - (lg_sl ([.ref h0, .int p0, .int p1])).length) Slot.unset).toArray = ls at hl ⊢
  have hl : lv_has ls 5 [(0, .ref h0), (1, .int p0), (2, .int p1)] := hl
  refine lv_aload_n hx hb dX6_findTest_0 rfl (lv_at hl 0 rfl) ?_
  refine lv_iload_n hx hb dX6_findTest_1 rfl (lv_at hl 1 rfl) ?_
  have hF1 := va_free (wc := [(h0, .inr (6, [.ref h1, .ref h2, .ref h3])), (h1, .inr (2, [.ref h4, .ref h5, .ref h6, .ref h7])), (h2, .inr (5, [.ref h1, .int 0])), (h3, .inr (4, [.ref h1, .ref h8, .int 0])), (h4, .inr (0, [.int 0, .ref z.1, .int 0])), (h5, .inr (0, [.int 0, .ref z.1, .int 0])), (h6, .inr (0, [.int 0, .ref z.1, .int 0])), (h7, .inr (0, [.int 0, .ref z.1, .int 0])), (h8, .inl (kc0, 8, .inl (fun _ => 0)))]) hD hS hA [0, 1, 2, 3, 4, 5, 6, 7, 8] rfl
  refine vx_callq (SX := Unit) (vx_runV (As := [.int p0]) (rest := []) ⟨hx, hb, hml, hown, hts⟩ (k89_netAt l hl9 dC dI z h0 h1 h2 h3 h4 h5 h6 h7 h8 s.heap.size p0 kc0) (cwV 1 hts (gV q_346 q_347 q_348 q_69 q_345) rfl rfl rfl (by decide +kernel) ⟨Nat.le_of_ble_eq_true rfl, Nat.le_of_ble_eq_true rfl⟩) ⟨pc_blind, va_recv hK hP (ci := 6) (q0 := 0) rfl rfl, fun U hU hW => ⟨rfl, pc_mk hP hD hK hS hX hT [0, 1, 2, 3, 4, 5, 6, 7, 8] [0] rfl rfl rfl rfl hF1 hU hW⟩⟩ rfl rfl hl.1 rfl (lv_room (Nat.le_of_ble_eq_true rfl)) dX6_findTest_2 ⟨(Nat.le_of_ble_eq_true rfl), (Nat.le_of_ble_eq_true rfl)⟩) hS (fun q9 _ h9 => hF1 q9 h9) hF1 (fun q9 _ h9 => hF1 q9 h9) (fun E3 ce3 x3 v3 t3 H3 L3 ht3 hvm3 hw3 hB3 hz3 hk3 hS hc3 hn3 hf3 => ?_) (fun _ _ _ _ _ _ _ hw9 _ _ _ _ => hw9.elim)
  obtain ⟨hP, hD⟩ := pq_rest (wr := []) hP hD [0, 1, 2, 3, 4, 5, 6, 7, 8] [] rfl rfl (by decide) (by decide) hk3 hF1
  exact vx_out (fun x9 hx9 => (hnt x9 hx9).elim) hlocks hc3 hn3 hf3 (fun t9 ht9 hv9 => ⟨(), trivial, hB3, hS.F ht9⟩) hS.2.2 (by decide) (by decide)

set_option maxHeartbeats 4000000 in
set_option maxRecDepth 100000 in
theorem k275_findTest (l : Launch) (hl9 : l.stackTraces = false) (dC : Nat → ClassId) (dI : Nat → Nat → Nat) (z : XZ) (h0 h1 h2 h3 h4 h5 h6 h7 h8 h9 : Nat) (sz : Nat) (p0 p1 : Int32) (kc0 kc1 : ClassId) : Met l yL_findTest (.codeWith yL_findTest cL_findTest 5 (some .int) [(0, 10, 13, 23), (0, 10, 17, 21), (0, 10, 21, 64)] :: wsL_law) ({ frames := 9, cells := 1, slots := 6, locals := 145 }) (va_Pc [.ref h0, .int p0, .int p1, .ref h1] (PC (dC, dI) [(h0, .inr (6, [.ref h2, .ref h3, .ref h4])), (h1, .inl (kc0, 1, .inr (.inl (fun _ => 0)))), (h2, .inr (2, [.ref h5, .ref h6, .ref h7, .ref h8])), (h3, .inr (5, [.ref h2, .int 0])), (h4, .inr (4, [.ref h2, .ref h9, .int 0])), (h5, .inr (0, [.int 0, .ref z.1, .int 0])), (h6, .inr (0, [.int 0, .ref z.1, .int 0])), (h7, .inr (0, [.int 0, .ref z.1, .int 0])), (h8, .inr (0, [.int 0, .ref z.1, .int 0])), (h9, .inl (kc1, 8, .inl (fun _ => 0)))] [(kc0, .long), (kc1, .int)] sz z)) (va_Qi (fun (r : Int32) (_ : Unit) => r = 1) (fun (_ : Unit) (t : State) => PQ (dC, dI) [(h1, .inl (kc0, 1, .inr (.inl (fun _ => 0))))] [(kc0, .long)] (va_A [(h0, .inr (6, [.ref h2, .ref h3, .ref h4])), (h1, .inl (kc0, 1, .inr (.inl (fun _ => 0)))), (h2, .inr (2, [.ref h5, .ref h6, .ref h7, .ref h8])), (h3, .inr (5, [.ref h2, .int 0])), (h4, .inr (4, [.ref h2, .ref h9, .int 0])), (h5, .inr (0, [.int 0, .ref z.1, .int 0])), (h6, .inr (0, [.int 0, .ref z.1, .int 0])), (h7, .inr (0, [.int 0, .ref z.1, .int 0])), (h8, .inr (0, [.int 0, .ref z.1, .int 0])), (h9, .inl (kc1, 8, .inl (fun _ => 0)))] sz) t) (va_A [(h0, .inr (6, [.ref h2, .ref h3, .ref h4])), (h1, .inl (kc0, 1, .inr (.inl (fun _ => 0)))), (h2, .inr (2, [.ref h5, .ref h6, .ref h7, .ref h8])), (h3, .inr (5, [.ref h2, .int 0])), (h4, .inr (4, [.ref h2, .ref h9, .int 0])), (h5, .inr (0, [.int 0, .ref z.1, .int 0])), (h6, .inr (0, [.int 0, .ref z.1, .int 0])), (h7, .inr (0, [.int 0, .ref z.1, .int 0])), (h8, .inr (0, [.int 0, .ref z.1, .int 0])), (h9, .inl (kc1, 8, .inl (fun _ => 0)))] sz)) 1 6 (va_A [(h0, .inr (6, [.ref h2, .ref h3, .ref h4])), (h1, .inl (kc0, 1, .inr (.inl (fun _ => 0)))), (h2, .inr (2, [.ref h5, .ref h6, .ref h7, .ref h8])), (h3, .inr (5, [.ref h2, .int 0])), (h4, .inr (4, [.ref h2, .ref h9, .int 0])), (h5, .inr (0, [.int 0, .ref z.1, .int 0])), (h6, .inr (0, [.int 0, .ref z.1, .int 0])), (h7, .inr (0, [.int 0, .ref z.1, .int 0])), (h8, .inr (0, [.int 0, .ref z.1, .int 0])), (h9, .inl (kc1, 8, .inl (fun _ => 0)))] sz) := by
  refine va_MetW (cc := cL_findTest) (maxL := 5) (ret := (some .int)) (hh := [(0, 10, 13, 23), (0, 10, 17, 21), (0, 10, 21, 64)]) (by decide) rfl ?_
  intro p e s m args below meth c s₁ B hml hv
  obtain ⟨rfl, hsz, hP, hK, hD0, hX, hT⟩ := hv
  have hx := B.exec
  have hb := B.bytes
  have hr := B.returns
  have hts0 := atoms_spec (ws := .codeWith yL_findTest cL_findTest 5 (some .int) [(0, 10, 13, 23), (0, 10, 17, 21), (0, 10, 21, 64)] :: wsL_law) B.pre
  have htab := vx_table (x := yL_findTest) B (hts0 _ List.mem_cons_self)
  have hts := xTail hts0
  have hown : s.vm.findClass RL = some m.cls := findClass_of_methodNamed B.named
  have hlocks := B.notSynchronized
  subst hsz
  have hD := hD0.self (sz := s.heap.size)
  generalize hAe : va_A [(h0, .inr (6, [.ref h2, .ref h3, .ref h4])), (h1, .inl (kc0, 1, .inr (.inl (fun _ => 0)))), (h2, .inr (2, [.ref h5, .ref h6, .ref h7, .ref h8])), (h3, .inr (5, [.ref h2, .int 0])), (h4, .inr (4, [.ref h2, .ref h9, .int 0])), (h5, .inr (0, [.int 0, .ref z.1, .int 0])), (h6, .inr (0, [.int 0, .ref z.1, .int 0])), (h7, .inr (0, [.int 0, .ref z.1, .int 0])), (h8, .inr (0, [.int 0, .ref z.1, .int 0])), (h9, .inl (kc1, 8, .inl (fun _ => 0)))] s.heap.size = A at hD hX ⊢
  have hA : ∀ q : Nat, s.heap.size ≤ q → A q := fun q h => by rw [← hAe]; exact Or.inr h
  have hS : va_S A s.heap s.heap [] := va_S.rf
  have hl := lv_entry ([.ref h0, .int p0, .int p1, .ref h1]) (n := 5) (Nat.le_of_ble_eq_true rfl)
  rw [lg_entry_eq]
  generalize (lg_sl ([.ref h0, .int p0, .int p1, .ref h1]) ++ List.replicate (5 - (lg_sl ([.ref h0, .int p0, .int p1, .ref h1])).length) Slot.unset).toArray = ls at hl ⊢
  have hl : lv_has ls 5 [(0, .ref h0), (1, .int p0), (2, .int p1), (3, .ref h1)] := hl
  refine lv_aload_n hx hb dL_findTest_0 rfl (lv_at hl 3 rfl) ?_
  refine lv_iconst (v := 0) hx hb dL_findTest_1 (by decide) ?_
  refine lv_aload_n hx hb dL_findTest_2 rfl (lv_at hl 0 rfl) ?_
  refine lv_iload_n hx hb dL_findTest_3 rfl (lv_at hl 1 rfl) ?_
  refine lv_iload_n hx hb dL_findTest_4 rfl (lv_at hl 2 rfl) ?_
  have hF1 := va_free (wc := [(h0, .inr (6, [.ref h2, .ref h3, .ref h4])), (h2, .inr (2, [.ref h5, .ref h6, .ref h7, .ref h8])), (h3, .inr (5, [.ref h2, .int 0])), (h4, .inr (4, [.ref h2, .ref h9, .int 0])), (h5, .inr (0, [.int 0, .ref z.1, .int 0])), (h6, .inr (0, [.int 0, .ref z.1, .int 0])), (h7, .inr (0, [.int 0, .ref z.1, .int 0])), (h8, .inr (0, [.int 0, .ref z.1, .int 0])), (h9, .inl (kc1, 8, .inl (fun _ => 0)))]) hD hS hA [0, 2, 3, 4, 5, 6, 7, 8, 9] rfl
  refine vx_calli (SX := Unit) (vx_runV (As := [.int p0, .int p1]) (rest := [.int 0, .ref h1]) ⟨hx, hb, hml, hown, hts⟩ (k274_findTest l hl9 dC dI z h0 h2 h3 h4 h5 h6 h7 h8 h9 s.heap.size p0 p1 kc1) (cwV 2 hts (gV q_631 q_632 q_633 q_69 q_630) rfl rfl rfl (by decide +kernel) ⟨Nat.le_of_ble_eq_true rfl, Nat.le_of_ble_eq_true rfl⟩) ⟨pc_blind, va_recv hK hP (ci := 6) (q0 := 0) rfl rfl, fun U hU hW => ⟨rfl, pc_mk hP hD hK hS hX hT [0, 2, 3, 4, 5, 6, 7, 8, 9] [1] rfl rfl rfl rfl hF1 hU hW⟩⟩ rfl rfl hl.1 rfl (lv_room (Nat.le_of_ble_eq_true rfl)) dL_findTest_5 ⟨(Nat.le_of_ble_eq_true rfl), (Nat.le_of_ble_eq_true rfl)⟩) hS (fun q9 _ h9 => hF1 q9 h9) hF1 (fun q9 _ h9 => hF1 q9 h9) (fun E3 ce3 x3 v3 t3 H3 L3 ht3 hvm3 hw3 hB3 hz3 hk3 hS hc3 hn3 hf3 => ?_) (fun _ _ _ _ _ _ _ hw9 _ _ _ _ => hw9.elim)
  obtain ⟨hP, hD⟩ := pq_rest (wr := [(h1, .inl (kc0, 1, .inr (.inl (fun _ => 0))))]) hP hD [0, 2, 3, 4, 5, 6, 7, 8, 9] [1] rfl rfl (by decide) (by decide) hk3 hF1
  subst hB3
  refine vx_catch (own := RL) (name := "java/lang/IndexOutOfBoundsException") hown [] ⟨0, 10, 13, 23⟩ [⟨0, 10, 17, 21⟩, ⟨0, 10, 21, 64⟩] htab (fun z9 hz9 => absurd hz9 List.not_mem_nil) (by decide) (by decide) (hts _ q_354) (va_Nw.use rfl (hT.2.1.1 ("java/lang/IndexOutOfBoundsException", "java/lang/IndexOutOfBoundsException") (by decide))) hc3 hn3 hf3 ?_
  refine lv_astore (lv' := [(4, .ref x3), (0, .ref h0), (1, .int p0), (2, .int p1), (3, .ref h1)]) hx hb dL_findTest_13 hl (by decide) rfl (fun ls hl => ?_)
  refine lv_iconst (v := 1) hx hb dL_findTest_15 (by decide) ?_
  exact W.iret (v := 1) hx hb hr (fun t9 ht9 hW9 => ⟨⟨1, (), rfl, rfl, pq_mk (wc := [(h1, .inl (kc0, 1, .inr (.inl (fun _ => 0))))]) (tc := [(kc0, .long)]) hP hD hK [0] [0] rfl rfl rfl rfl ht9 hW9⟩, hS.F ht9⟩) hS.2.2 dL_findTest_16

set_option maxHeartbeats 4000000 in
set_option maxRecDepth 100000 in
theorem k276_findTest (l : Launch) (hl9 : l.stackTraces = false) (dC : Nat → ClassId) (dI : Nat → Nat → Nat) (z : XZ) (h0 h1 h2 h3 h4 : Nat) (sz : Nat) (p0 p1 : Int32) : Met l yX9_findTest (.code yX9_findTest cX9_findTest 4 (some .int) :: wsL_law) ({ frames := 3, cells := 0, slots := 0, locals := 65 }) (va_Pc [.ref h0, .int p0, .int p1] (PC (dC, dI) [(h0, .inr (8, [.int 0, .ref h1, .ref h2, .ref h3, .ref h4, .int 0])), (h1, .inr (0, [.int 0, .ref z.1, .int 0])), (h2, .inr (0, [.int 0, .ref z.1, .int 0])), (h3, .inr (0, [.int 0, .ref z.1, .int 0])), (h4, .inr (0, [.int 0, .ref z.1, .int 0]))] [] sz z)) (va_Qi (fun (r : Int32) (_ : Unit) => r = 0) (fun (_ : Unit) (t : State) => PQ (dC, dI) [(h0, .inr (8, [.int 1, .ref h1, .ref h2, .ref h3, .ref h4, .int 0])), (h1, .inr (0, [.int 0, .ref z.1, .int 0])), (h2, .inr (0, [.int 0, .ref z.1, .int 0])), (h3, .inr (0, [.int 0, .ref z.1, .int 0])), (h4, .inr (0, [.int 0, .ref z.1, .int 0]))] [] (va_A [(h0, .inr (8, [.int 0, .ref h1, .ref h2, .ref h3, .ref h4, .int 0])), (h1, .inr (0, [.int 0, .ref z.1, .int 0])), (h2, .inr (0, [.int 0, .ref z.1, .int 0])), (h3, .inr (0, [.int 0, .ref z.1, .int 0])), (h4, .inr (0, [.int 0, .ref z.1, .int 0]))] sz) t) (va_A [(h0, .inr (8, [.int 0, .ref h1, .ref h2, .ref h3, .ref h4, .int 0])), (h1, .inr (0, [.int 0, .ref z.1, .int 0])), (h2, .inr (0, [.int 0, .ref z.1, .int 0])), (h3, .inr (0, [.int 0, .ref z.1, .int 0])), (h4, .inr (0, [.int 0, .ref z.1, .int 0]))] sz)) 0 0 (va_A [(h0, .inr (8, [.int 0, .ref h1, .ref h2, .ref h3, .ref h4, .int 0])), (h1, .inr (0, [.int 0, .ref z.1, .int 0])), (h2, .inr (0, [.int 0, .ref z.1, .int 0])), (h3, .inr (0, [.int 0, .ref z.1, .int 0])), (h4, .inr (0, [.int 0, .ref z.1, .int 0]))] sz) := by
  refine Met.ofW (cc := cX9_findTest) (maxL := 4) (ret := (some .int)) (by decide) rfl ?_
  intro p e s m args below meth c s₁ B hml hv
  obtain ⟨rfl, hsz, hP, hK, hD0, hX, hT⟩ := hv
  have hx := B.exec
  have hb := B.bytes
  have hr := B.returns
  have hts0 := atoms_spec (ws := .code yX9_findTest cX9_findTest 4 (some .int) :: wsL_law) B.pre
  have hts := xTail hts0
  have hown : s.vm.findClass RX9 = some m.cls := findClass_of_methodNamed B.named
  have hlocks := B.notSynchronized
  subst hsz
  have hD := hD0.self (sz := s.heap.size)
  generalize hAe : va_A [(h0, .inr (8, [.int 0, .ref h1, .ref h2, .ref h3, .ref h4, .int 0])), (h1, .inr (0, [.int 0, .ref z.1, .int 0])), (h2, .inr (0, [.int 0, .ref z.1, .int 0])), (h3, .inr (0, [.int 0, .ref z.1, .int 0])), (h4, .inr (0, [.int 0, .ref z.1, .int 0]))] s.heap.size = A at hD hX ⊢
  have hA : ∀ q : Nat, s.heap.size ≤ q → A q := fun q h => by rw [← hAe]; exact Or.inr h
  have hS : va_S A s.heap s.heap [] := va_S.rf
  have hl := lv_entry ([.ref h0, .int p0, .int p1]) (n := 4) (Nat.le_of_ble_eq_true rfl)
  rw [lg_entry_eq]
  generalize (lg_sl ([.ref h0, .int p0, .int p1]) ++ List.replicate (4 - (lg_sl ([.ref h0, .int p0, .int p1])).length) Slot.unset).toArray = ls at hl ⊢
  have hl : lv_has ls 4 [(0, .ref h0), (1, .int p0), (2, .int p1)] := hl
  refine lv_aload_n hx hb dX9_findTest_0 rfl (lv_at hl 0 rfl) ?_
  refine lv_iconst (v := 0) hx hb dX9_findTest_1 (by decide) ?_
  refine va_put (D := (dC, dI)) (ci := 8) (v := .int 0) (ty := .int) (C := RX9) (T := TX9) (N := 6) hx hb hts in_X9 tyX9 tyX9_ok nmX9 hown hK hP hD hS 0 rfl rfl 0 (by decide) (hts _ q_230) (fun _ h9 => h9) rfl (by decide +kernel) rfl rfl (Nat.le_of_ble_eq_true rfl) dX9_findTest_2 (fun H1 _ hP hD hS => ?_)
  have hP : va_P (dC, dI) xCl [(h0, .inr (8, [.int 0, .ref h1, .ref h2, .ref h3, .ref h4, .int 0])), (h1, .inr (0, [.int 0, .ref z.1, .int 0])), (h2, .inr (0, [.int 0, .ref z.1, .int 0])), (h3, .inr (0, [.int 0, .ref z.1, .int 0])), (h4, .inr (0, [.int 0, .ref z.1, .int 0]))] H1 := hP
  have hD : va_D A [(h0, .inr (8, [.int 0, .ref h1, .ref h2, .ref h3, .ref h4, .int 0])), (h1, .inr (0, [.int 0, .ref z.1, .int 0])), (h2, .inr (0, [.int 0, .ref z.1, .int 0])), (h3, .inr (0, [.int 0, .ref z.1, .int 0])), (h4, .inr (0, [.int 0, .ref z.1, .int 0]))] := hD
  refine lv_aload_n hx hb dX9_findTest_5 rfl (lv_at hl 0 rfl) ?_
  refine lv_iload_n hx hb dX9_findTest_6 rfl (lv_at hl 1 rfl) ?_
  refine lv_iload_n hx hb dX9_findTest_7 rfl (lv_at hl 2 rfl) ?_
  have hF2 := va_free (wc := [(h0, .inr (8, [.int 0, .ref h1, .ref h2, .ref h3, .ref h4, .int 0])), (h1, .inr (0, [.int 0, .ref z.1, .int 0])), (h2, .inr (0, [.int 0, .ref z.1, .int 0])), (h3, .inr (0, [.int 0, .ref z.1, .int 0])), (h4, .inr (0, [.int 0, .ref z.1, .int 0]))]) hD hS hA [0, 1, 2, 3, 4] rfl
  refine va_calli (va_runV (As := [.int p0, .int p1]) (rest := []) ⟨hx, hb, hml, hown, hts⟩ (k272_cannot l hl9 dC dI z h0 h1 h2 h3 h4 H1.size p0 p1) (cwV 2 hts (gV q_623 q_624 q_625 q_255 q_622) rfl rfl rfl (by decide +kernel) ⟨Nat.le_of_ble_eq_true rfl, Nat.le_of_ble_eq_true rfl⟩) ⟨pc_blind, va_recv hK hP (ci := 8) (q0 := 0) rfl rfl, fun U hU hW => ⟨rfl, pc_mk hP hD hK hS hX hT [0, 1, 2, 3, 4] [] rfl rfl rfl rfl hF2 hU hW⟩⟩ rfl rfl hl.1 rfl (lv_room (Nat.le_of_ble_eq_true rfl)) dX9_findTest_8 ⟨(Nat.le_of_ble_eq_true rfl), (Nat.le_of_ble_eq_true rfl)⟩) hS (fun q9 _ h9 => hF2 q9 h9) hF2 (fun r5 u4 t4 H4 L4 ht4 hvm4 hw4 hB4 hz4 hk4 hS => ?_)
  obtain ⟨hP, hD, hK⟩ := pq_join (wr := []) (tr := []) (wz := [(h0, .inr (8, [.int 1, .ref h1, .ref h2, .ref h3, .ref h4, .int 0])), (h1, .inr (0, [.int 0, .ref z.1, .int 0])), (h2, .inr (0, [.int 0, .ref z.1, .int 0])), (h3, .inr (0, [.int 0, .ref z.1, .int 0])), (h4, .inr (0, [.int 0, .ref z.1, .int 0]))]) (tz := []) hP hD hK [0, 1, 2, 3, 4] [] [] rfl rfl (by decide) (by decide) rfl hk4 hF2 hB4 ht4 hvm4 rfl rfl
  refine W.eq (g2 := F0 m 11 ls [.int 1]) (by rw [hw4]) ?_
  refine lv_if_eq (tgt := 16) hx hb dX9_findTest_11 (by decide) (fun cz => absurd cz (by decide)) (fun _ => ?_)
  refine lv_iconst (v := 0) hx hb dX9_findTest_14 (by decide) ?_
  exact W.iret (v := 0) hx hb hr (fun t9 ht9 hW9 => ⟨⟨0, (), rfl, rfl, pq_mk (wc := [(h0, .inr (8, [.int 1, .ref h1, .ref h2, .ref h3, .ref h4, .int 0])), (h1, .inr (0, [.int 0, .ref z.1, .int 0])), (h2, .inr (0, [.int 0, .ref z.1, .int 0])), (h3, .inr (0, [.int 0, .ref z.1, .int 0])), (h4, .inr (0, [.int 0, .ref z.1, .int 0]))]) (tc := []) hP hD hK [0, 1, 2, 3, 4] [] rfl rfl rfl rfl ht9 hW9⟩, hS.F ht9⟩) hS.2.2 dX9_findTest_15

set_option maxHeartbeats 4000000 in
set_option maxRecDepth 100000 in
theorem k277_rowCount (l : Launch) (hl9 : l.stackTraces = false) (dC : Nat → ClassId) (dI : Nat → Nat → Nat) (z : XZ) (h0 h1 h2 h3 h4 h5 h6 : Nat) (sz : Nat) (kc0 : ClassId) : Met l yX4_rowCount (.code yX4_rowCount cX4_rowCount 1 (some .int) :: wsL_law) ({ frames := 1, cells := 0, slots := 0, locals := 20 }) (va_Pc [.ref h0] (PC (dC, dI) [(h0, .inr (4, [.ref h1, .ref h2, .int 0])), (h1, .inr (2, [.ref h3, .ref h4, .ref h5, .ref h6])), (h2, .inl (kc0, 8, .inl (fun _ => 0))), (h3, .inr (0, [.int 0, .ref z.1, .int 0])), (h4, .inr (0, [.int 0, .ref z.1, .int 0])), (h5, .inr (0, [.int 0, .ref z.1, .int 0])), (h6, .inr (0, [.int 0, .ref z.1, .int 0]))] [(kc0, .int)] sz z)) (va_Qi (fun (r : Int32) (_ : Unit) => r = 1) (fun (_ : Unit) (t : State) => PQ (dC, dI) [(h0, .inr (4, [.ref h1, .ref h2, .int 0])), (h1, .inr (2, [.ref h3, .ref h4, .ref h5, .ref h6])), (h2, .inl (kc0, 8, .inl (fun _ => 0))), (h3, .inr (0, [.int 0, .ref z.1, .int 0])), (h4, .inr (0, [.int 0, .ref z.1, .int 0])), (h5, .inr (0, [.int 0, .ref z.1, .int 0])), (h6, .inr (0, [.int 0, .ref z.1, .int 0]))] [(kc0, .int)] (va_A [(h0, .inr (4, [.ref h1, .ref h2, .int 0])), (h1, .inr (2, [.ref h3, .ref h4, .ref h5, .ref h6])), (h2, .inl (kc0, 8, .inl (fun _ => 0))), (h3, .inr (0, [.int 0, .ref z.1, .int 0])), (h4, .inr (0, [.int 0, .ref z.1, .int 0])), (h5, .inr (0, [.int 0, .ref z.1, .int 0])), (h6, .inr (0, [.int 0, .ref z.1, .int 0]))] sz) t) (va_A [(h0, .inr (4, [.ref h1, .ref h2, .int 0])), (h1, .inr (2, [.ref h3, .ref h4, .ref h5, .ref h6])), (h2, .inl (kc0, 8, .inl (fun _ => 0))), (h3, .inr (0, [.int 0, .ref z.1, .int 0])), (h4, .inr (0, [.int 0, .ref z.1, .int 0])), (h5, .inr (0, [.int 0, .ref z.1, .int 0])), (h6, .inr (0, [.int 0, .ref z.1, .int 0]))] sz)) 0 0 (va_A [(h0, .inr (4, [.ref h1, .ref h2, .int 0])), (h1, .inr (2, [.ref h3, .ref h4, .ref h5, .ref h6])), (h2, .inl (kc0, 8, .inl (fun _ => 0))), (h3, .inr (0, [.int 0, .ref z.1, .int 0])), (h4, .inr (0, [.int 0, .ref z.1, .int 0])), (h5, .inr (0, [.int 0, .ref z.1, .int 0])), (h6, .inr (0, [.int 0, .ref z.1, .int 0]))] sz) := by
  refine Met.ofW (cc := cX4_rowCount) (maxL := 1) (ret := (some .int)) (by decide) rfl ?_
  intro p e s m args below meth c s₁ B hml hv
  obtain ⟨rfl, hsz, hP, hK, hD0, hX, hT⟩ := hv
  have hx := B.exec
  have hb := B.bytes
  have hr := B.returns
  have hts0 := atoms_spec (ws := .code yX4_rowCount cX4_rowCount 1 (some .int) :: wsL_law) B.pre
  have hts := xTail hts0
  have hown : s.vm.findClass RX4 = some m.cls := findClass_of_methodNamed B.named
  have hlocks := B.notSynchronized
  subst hsz
  have hD := hD0.self (sz := s.heap.size)
  generalize hAe : va_A [(h0, .inr (4, [.ref h1, .ref h2, .int 0])), (h1, .inr (2, [.ref h3, .ref h4, .ref h5, .ref h6])), (h2, .inl (kc0, 8, .inl (fun _ => 0))), (h3, .inr (0, [.int 0, .ref z.1, .int 0])), (h4, .inr (0, [.int 0, .ref z.1, .int 0])), (h5, .inr (0, [.int 0, .ref z.1, .int 0])), (h6, .inr (0, [.int 0, .ref z.1, .int 0]))] s.heap.size = A at hD hX ⊢
  have hA : ∀ q : Nat, s.heap.size ≤ q → A q := fun q h => by rw [← hAe]; exact Or.inr h
  have hS : va_S A s.heap s.heap [] := va_S.rf
  have hl := lv_entry ([.ref h0]) (n := 1) (Nat.le_of_ble_eq_true rfl)
  rw [lg_entry_eq]
  generalize (lg_sl ([.ref h0]) ++ List.replicate (1 - (lg_sl ([.ref h0])).length) Slot.unset).toArray = ls at hl ⊢
  have hl : lv_has ls 1 [(0, .ref h0)] := hl
  refine lv_iconst (v := 1) hx hb dX4_rowCount_0 (by decide) ?_
  refine lv_aload_n hx hb dX4_rowCount_1 rfl (lv_at hl 0 rfl) ?_
  refine va_get (D := (dC, dI)) (ci := 4) (v := .ref h1) (C := RX4) (T := TX4) (N := 3) hx hb hts in_X4 hown hK hP 0 rfl rfl 0 (by decide) (hts _ q_47) (fun _ h9 => h9) rfl dX4_rowCount_2 ?_
  refine va_get (D := (dC, dI)) (ci := 2) (v := .ref h4) (C := RX0) (T := TX0) (N := 4) hx hb hts in_X0 hown hK hP 1 rfl rfl 1 (by decide) (hts _ q_643) (fun _ h9 => h9) rfl dX4_rowCount_5 ?_
  have hF1 := va_free (wc := [(h4, .inr (0, [.int 0, .ref z.1, .int 0]))]) hD hS hA [4] rfl
  refine va_calli (va_runV (As := []) (rest := [.int 1]) ⟨hx, hb, hml, hown, hts⟩ (k9_size l hl9 dC dI z h4 s.heap.size 0 0) (cwV 0 hts (gV q_644 q_63 q_64 q_9 q_61) rfl rfl rfl (by decide +kernel) ⟨Nat.le_of_ble_eq_true rfl, Nat.le_of_ble_eq_true rfl⟩) ⟨pc_blind, va_recv hK hP (ci := 0) (q0 := 4) rfl rfl, fun U hU hW => ⟨rfl, pc_mk hP hD hK hS hX hT [4] [] rfl rfl rfl rfl hF1 hU hW⟩⟩ rfl rfl hl.1 rfl (lv_room (Nat.le_of_ble_eq_true rfl)) dX4_rowCount_8 ⟨(Nat.le_of_ble_eq_true rfl), (Nat.le_of_ble_eq_true rfl)⟩) hS (fun q9 _ h9 => hF1 q9 h9) hF1 (fun r4 u3 t3 H3 L3 ht3 hvm3 hw3 hB3 hz3 hk3 hS => ?_)
  obtain ⟨hP, hD, hK⟩ := pq_join (wr := [(h0, .inr (4, [.ref h1, .ref h2, .int 0])), (h1, .inr (2, [.ref h3, .ref h4, .ref h5, .ref h6])), (h2, .inl (kc0, 8, .inl (fun _ => 0))), (h3, .inr (0, [.int 0, .ref z.1, .int 0])), (h5, .inr (0, [.int 0, .ref z.1, .int 0])), (h6, .inr (0, [.int 0, .ref z.1, .int 0]))]) (tr := [(kc0, .int)]) (wz := [(h0, .inr (4, [.ref h1, .ref h2, .int 0])), (h1, .inr (2, [.ref h3, .ref h4, .ref h5, .ref h6])), (h2, .inl (kc0, 8, .inl (fun _ => 0))), (h3, .inr (0, [.int 0, .ref z.1, .int 0])), (h5, .inr (0, [.int 0, .ref z.1, .int 0])), (h6, .inr (0, [.int 0, .ref z.1, .int 0])), (h4, .inr (0, [.int 0, .ref z.1, .int 0]))]) (tz := [(kc0, .int)]) hP hD hK [4] [0, 1, 2, 3, 5, 6] [0] rfl rfl (by decide) (by decide) rfl hk3 hF1 hB3 ht3 hvm3 rfl rfl
  refine W.eq (g2 := F0 m 11 ls [.int 0, .int 1]) (by rw [hw3]) ?_
  refine lv_ishl hx hb dX4_rowCount_11 ?_
  refine lv_topi (fun y5 ey5 => ?_)
  obtain rfl : y5 = 1 := ey5.trans (by decide)
  exact W.iret (v := 1) hx hb hr (fun t9 ht9 hW9 => ⟨⟨1, (), rfl, rfl, pq_mk (wc := [(h0, .inr (4, [.ref h1, .ref h2, .int 0])), (h1, .inr (2, [.ref h3, .ref h4, .ref h5, .ref h6])), (h2, .inl (kc0, 8, .inl (fun _ => 0))), (h3, .inr (0, [.int 0, .ref z.1, .int 0])), (h4, .inr (0, [.int 0, .ref z.1, .int 0])), (h5, .inr (0, [.int 0, .ref z.1, .int 0])), (h6, .inr (0, [.int 0, .ref z.1, .int 0]))]) (tc := [(kc0, .int)]) hP hD hK [0, 1, 2, 3, 6, 4, 5] [0] rfl rfl rfl rfl ht9 hW9⟩, hS.F ht9⟩) hS.2.2 dX4_rowCount_12

set_option maxHeartbeats 4000000 in
set_option maxRecDepth 100000 in
theorem k278_requireRow (l : Launch) (hl9 : l.stackTraces = false) (dC : Nat → ClassId) (dI : Nat → Nat → Nat) (z : XZ) (h0 h1 h2 h3 h4 h5 h6 h7 h8 : Nat) (sz : Nat) (p0 : Int32) (kc0 : ClassId) (hv0 : xBt p0 0 0 = 0) : vx_Met l yX6_requireRow (.code yX6_requireRow cX6_requireRow 2 none :: wsL_law) ({ frames := 7, cells := 1, slots := 6, locals := 100 }) (va_Pc [.ref h0, .int p0] (PC (dC, dI) [(h0, .inr (6, [.ref h1, .ref h2, .ref h3])), (h1, .inr (2, [.ref h4, .ref h5, .ref h6, .ref h7])), (h2, .inr (5, [.ref h1, .int 0])), (h3, .inr (4, [.ref h1, .ref h8, .int 0])), (h4, .inr (0, [.int 0, .ref z.1, .int 0])), (h5, .inr (0, [.int 0, .ref z.1, .int 0])), (h6, .inr (0, [.int 0, .ref z.1, .int 0])), (h7, .inr (0, [.int 0, .ref z.1, .int 0])), (h8, .inl (kc0, 8, .inl (fun _ => 0)))] [(kc0, .int)] sz z)) (va_Qv (fun (_ : Unit) => False) (fun _ _ => True) (va_A [(h0, .inr (6, [.ref h1, .ref h2, .ref h3])), (h1, .inr (2, [.ref h4, .ref h5, .ref h6, .ref h7])), (h2, .inr (5, [.ref h1, .int 0])), (h3, .inr (4, [.ref h1, .ref h8, .int 0])), (h4, .inr (0, [.int 0, .ref z.1, .int 0])), (h5, .inr (0, [.int 0, .ref z.1, .int 0])), (h6, .inr (0, [.int 0, .ref z.1, .int 0])), (h7, .inr (0, [.int 0, .ref z.1, .int 0])), (h8, .inl (kc0, 8, .inl (fun _ => 0)))] sz)) (vx_X (fun (_ : Unit) => True) (fun (E : String) (_ : Unit) (_ : State) => E = "java/util/NoSuchElementException") (va_A [(h0, .inr (6, [.ref h1, .ref h2, .ref h3])), (h1, .inr (2, [.ref h4, .ref h5, .ref h6, .ref h7])), (h2, .inr (5, [.ref h1, .int 0])), (h3, .inr (4, [.ref h1, .ref h8, .int 0])), (h4, .inr (0, [.int 0, .ref z.1, .int 0])), (h5, .inr (0, [.int 0, .ref z.1, .int 0])), (h6, .inr (0, [.int 0, .ref z.1, .int 0])), (h7, .inr (0, [.int 0, .ref z.1, .int 0])), (h8, .inl (kc0, 8, .inl (fun _ => 0)))] sz)) 1 6 (va_A [(h0, .inr (6, [.ref h1, .ref h2, .ref h3])), (h1, .inr (2, [.ref h4, .ref h5, .ref h6, .ref h7])), (h2, .inr (5, [.ref h1, .int 0])), (h3, .inr (4, [.ref h1, .ref h8, .int 0])), (h4, .inr (0, [.int 0, .ref z.1, .int 0])), (h5, .inr (0, [.int 0, .ref z.1, .int 0])), (h6, .inr (0, [.int 0, .ref z.1, .int 0])), (h7, .inr (0, [.int 0, .ref z.1, .int 0])), (h8, .inl (kc0, 8, .inl (fun _ => 0)))] sz) := by
  refine vx_ofW (cc := cX6_requireRow) (maxL := 2) (ret := none) (by decide) rfl ?_
  intro p e s m args below meth c s₁ B hml hnt hv
  obtain ⟨rfl, hsz, hP, hK, hD0, hX, hT⟩ := hv
  have hx := B.exec
  have hb := B.bytes
  have hr := B.returns
  have hts0 := atoms_spec (ws := .code yX6_requireRow cX6_requireRow 2 none :: wsL_law) B.pre
  have hts := xTail hts0
  have hown : s.vm.findClass RX6 = some m.cls := findClass_of_methodNamed B.named
  have hlocks := B.notSynchronized
  subst hsz
  have hD := hD0.self (sz := s.heap.size)
  generalize hAe : va_A [(h0, .inr (6, [.ref h1, .ref h2, .ref h3])), (h1, .inr (2, [.ref h4, .ref h5, .ref h6, .ref h7])), (h2, .inr (5, [.ref h1, .int 0])), (h3, .inr (4, [.ref h1, .ref h8, .int 0])), (h4, .inr (0, [.int 0, .ref z.1, .int 0])), (h5, .inr (0, [.int 0, .ref z.1, .int 0])), (h6, .inr (0, [.int 0, .ref z.1, .int 0])), (h7, .inr (0, [.int 0, .ref z.1, .int 0])), (h8, .inl (kc0, 8, .inl (fun _ => 0)))] s.heap.size = A at hD hX ⊢
  have hA : ∀ q : Nat, s.heap.size ≤ q → A q := fun q h => by rw [← hAe]; exact Or.inr h
  have hS : va_S A s.heap s.heap [] := va_S.rf
  have hl := lv_entry ([.ref h0, .int p0]) (n := 2) (Nat.le_of_ble_eq_true rfl)
  rw [lg_entry_eq]
  generalize (lg_sl ([.ref h0, .int p0]) ++ List.replicate (2 - (lg_sl ([.ref h0, .int p0])).length) Slot.unset).toArray = ls at hl ⊢
  have hl : lv_has ls 2 [(0, .ref h0), (1, .int p0)] := hl
  refine lv_iload_n hx hb dX6_requireRow_0 rfl (lv_at hl 1 rfl) ?_
  refine lv_if_lt (tgt := 15) hx hb dX6_requireRow_1 (by decide) (fun c1 => ?_) (fun c1 => ?_)
  · obtain ⟨sa9, hsa9⟩ := hT.1 (277, "no such row") (by decide)
    refine xn_make (ik := 166) hx hb hl9 hown (hts _ q_641) (hts _ q_642) hsa9 (xhat_170 hts hT) xot_170 hX.2.2.2.1 hX.2.2.2.2 hS (hl.1.trans hml.symm) dX6_requireRow_15 dX6_requireRow_18 dX6_requireRow_19 dX6_requireRow_22 (by decide) (by decide) (Nat.le_of_ble_eq_true rfl) (Nat.le_of_ble_eq_true rfl) (fun q9 H9 ce9 hS hc9 hv9 hf9 _ _ => ?_)
    exact vx_athrow hx hb dX6_requireRow_25 (vx_out (fun x9 hx9 => (hnt x9 hx9).elim) hlocks hc9 hv9 hf9 (fun t9 ht9 hv8 => ⟨(), trivial, rfl, hS.F ht9⟩) hS.2.2 (by decide) (by decide))
  · refine lv_iload_n hx hb dX6_requireRow_4 rfl (lv_at hl 1 rfl) ?_
    refine lv_aload_n hx hb dX6_requireRow_5 rfl (lv_at hl 0 rfl) ?_
    refine va_get (D := (dC, dI)) (ci := 6) (v := .ref h3) (C := RX6) (T := TX6) (N := 3) hx hb hts in_X6 hown hK hP 0 rfl rfl 2 (by decide) (hts _ q_51) (fun _ h9 => h9) rfl dX6_requireRow_6 ?_
    have hF2 := va_free (wc := [(h3, .inr (4, [.ref h1, .ref h8, .int 0])), (h1, .inr (2, [.ref h4, .ref h5, .ref h6, .ref h7])), (h8, .inl (kc0, 8, .inl (fun _ => 0))), (h4, .inr (0, [.int 0, .ref z.1, .int 0])), (h5, .inr (0, [.int 0, .ref z.1, .int 0])), (h6, .inr (0, [.int 0, .ref z.1, .int 0])), (h7, .inr (0, [.int 0, .ref z.1, .int 0]))]) hD hS hA [3, 1, 8, 4, 5, 6, 7] rfl
    refine va_calli (va_runV (As := []) (rest := [.int p0]) ⟨hx, hb, hml, hown, hts⟩ (k277_rowCount l hl9 dC dI z h3 h1 h8 h4 h5 h6 h7 s.heap.size kc0) (cwV 0 hts (gV q_646 q_647 q_648 q_43 q_645) rfl rfl rfl (by decide +kernel) ⟨Nat.le_of_ble_eq_true rfl, Nat.le_of_ble_eq_true rfl⟩) ⟨pc_blind, va_recv hK hP (ci := 4) (q0 := 3) rfl rfl, fun U hU hW => ⟨rfl, pc_mk hP hD hK hS hX hT [3, 1, 8, 4, 5, 6, 7] [0] rfl rfl rfl rfl hF2 hU hW⟩⟩ rfl rfl hl.1 rfl (lv_room (Nat.le_of_ble_eq_true rfl)) dX6_requireRow_9 ⟨(Nat.le_of_ble_eq_true rfl), (Nat.le_of_ble_eq_true rfl)⟩) hS (fun q9 _ h9 => hF2 q9 h9) hF2 (fun r5 u4 t4 H4 L4 ht4 hvm4 hw4 hB4 hz4 hk4 hS => ?_)
    obtain ⟨hP, hD, hK⟩ := pq_join (wr := [(h0, .inr (6, [.ref h1, .ref h2, .ref h3])), (h2, .inr (5, [.ref h1, .int 0]))]) (tr := []) (wz := [(h0, .inr (6, [.ref h1, .ref h2, .ref h3])), (h2, .inr (5, [.ref h1, .int 0])), (h3, .inr (4, [.ref h1, .ref h8, .int 0])), (h1, .inr (2, [.ref h4, .ref h5, .ref h6, .ref h7])), (h8, .inl (kc0, 8, .inl (fun _ => 0))), (h4, .inr (0, [.int 0, .ref z.1, .int 0])), (h5, .inr (0, [.int 0, .ref z.1, .int 0])), (h6, .inr (0, [.int 0, .ref z.1, .int 0])), (h7, .inr (0, [.int 0, .ref z.1, .int 0]))]) (tz := [(kc0, .int)]) hP hD hK [3, 1, 8, 4, 5, 6, 7] [0, 2] [] rfl rfl (by decide) (by decide) rfl hk4 hF2 hB4 ht4 hvm4 rfl rfl
    refine W.eq (g2 := F0 m 12 ls [.int 1, .int p0]) (by rw [hw4]) ?_
    refine lv_icmp_lt (tgt := 26) hx hb dX6_requireRow_12 (by decide) (fun cz => False.elim (by have hz0 := xBt_0 hv0; simp only [fa_lt, fa_le, fa_eq, tI_0, tI_m1, tI_1, tI_9, tI_100, tI_126, tI_61, tI_38, tI_124, tI_94, tI_9999] at cz c1 hz0; omega)) (fun _ => ?_)
    obtain ⟨sa9, hsa9⟩ := hT.1 (277, "no such row") (by decide)
    refine xn_make (ik := 166) hx hb hl9 hown (hts _ q_641) (hts _ q_642) hsa9 (xhat_170 hts hT) xot_170 hX.2.2.2.1 hX.2.2.2.2 hS (hl.1.trans hml.symm) dX6_requireRow_15 dX6_requireRow_18 dX6_requireRow_19 dX6_requireRow_22 (by decide) (by decide) (Nat.le_of_ble_eq_true rfl) (Nat.le_of_ble_eq_true rfl) (fun q9 H9 ce9 hS hc9 hv9 hf9 _ _ => ?_)
    exact vx_athrow hx hb dX6_requireRow_25 (vx_out (fun x9 hx9 => (hnt x9 hx9).elim) hlocks hc9 hv9 hf9 (fun t9 ht9 hv8 => ⟨(), trivial, rfl, hS.F ht9⟩) hS.2.2 (by decide) (by decide))

set_option maxHeartbeats 4000000 in
set_option maxRecDepth 100000 in
theorem k279_addTest (l : Launch) (hl9 : l.stackTraces = false) (dC : Nat → ClassId) (dI : Nat → Nat → Nat) (z : XZ) (h0 h1 h2 h3 h4 h5 h6 h7 h8 : Nat) (sz : Nat) (p0 : Int32) (kc0 : ClassId) (hv0 : xBt p0 0 0 = 0) : vx_Met l yX6_addTest (.code yX6_addTest cX6_addTest 2 (some .int) :: wsL_law) ({ frames := 8, cells := 1, slots := 6, locals := 121 }) (va_Pc [.ref h0, .int p0] (PC (dC, dI) [(h0, .inr (6, [.ref h1, .ref h2, .ref h3])), (h1, .inr (2, [.ref h4, .ref h5, .ref h6, .ref h7])), (h2, .inr (5, [.ref h1, .int 0])), (h3, .inr (4, [.ref h1, .ref h8, .int 0])), (h4, .inr (0, [.int 0, .ref z.1, .int 0])), (h5, .inr (0, [.int 0, .ref z.1, .int 0])), (h6, .inr (0, [.int 0, .ref z.1, .int 0])), (h7, .inr (0, [.int 0, .ref z.1, .int 0])), (h8, .inl (kc0, 8, .inl (fun _ => 0)))] [(kc0, .int)] sz z)) (va_Qi (fun (_ : Int32) (_ : Unit) => False) (fun _ _ => True) (va_A [(h0, .inr (6, [.ref h1, .ref h2, .ref h3])), (h1, .inr (2, [.ref h4, .ref h5, .ref h6, .ref h7])), (h2, .inr (5, [.ref h1, .int 0])), (h3, .inr (4, [.ref h1, .ref h8, .int 0])), (h4, .inr (0, [.int 0, .ref z.1, .int 0])), (h5, .inr (0, [.int 0, .ref z.1, .int 0])), (h6, .inr (0, [.int 0, .ref z.1, .int 0])), (h7, .inr (0, [.int 0, .ref z.1, .int 0])), (h8, .inl (kc0, 8, .inl (fun _ => 0)))] sz)) (vx_X (fun (_ : Unit) => True) (fun (E : String) (_ : Unit) (_ : State) => E = "java/util/NoSuchElementException") (va_A [(h0, .inr (6, [.ref h1, .ref h2, .ref h3])), (h1, .inr (2, [.ref h4, .ref h5, .ref h6, .ref h7])), (h2, .inr (5, [.ref h1, .int 0])), (h3, .inr (4, [.ref h1, .ref h8, .int 0])), (h4, .inr (0, [.int 0, .ref z.1, .int 0])), (h5, .inr (0, [.int 0, .ref z.1, .int 0])), (h6, .inr (0, [.int 0, .ref z.1, .int 0])), (h7, .inr (0, [.int 0, .ref z.1, .int 0])), (h8, .inl (kc0, 8, .inl (fun _ => 0)))] sz)) 1 6 (va_A [(h0, .inr (6, [.ref h1, .ref h2, .ref h3])), (h1, .inr (2, [.ref h4, .ref h5, .ref h6, .ref h7])), (h2, .inr (5, [.ref h1, .int 0])), (h3, .inr (4, [.ref h1, .ref h8, .int 0])), (h4, .inr (0, [.int 0, .ref z.1, .int 0])), (h5, .inr (0, [.int 0, .ref z.1, .int 0])), (h6, .inr (0, [.int 0, .ref z.1, .int 0])), (h7, .inr (0, [.int 0, .ref z.1, .int 0])), (h8, .inl (kc0, 8, .inl (fun _ => 0)))] sz) := by
  refine vx_ofW (cc := cX6_addTest) (maxL := 2) (ret := (some .int)) (by decide) rfl ?_
  intro p e s m args below meth c s₁ B hml hnt hv
  obtain ⟨rfl, hsz, hP, hK, hD0, hX, hT⟩ := hv
  have hx := B.exec
  have hb := B.bytes
  have hr := B.returns
  have hts0 := atoms_spec (ws := .code yX6_addTest cX6_addTest 2 (some .int) :: wsL_law) B.pre
  have hts := xTail hts0
  have hown : s.vm.findClass RX6 = some m.cls := findClass_of_methodNamed B.named
  have hlocks := B.notSynchronized
  subst hsz
  have hD := hD0.self (sz := s.heap.size)
  generalize hAe : va_A [(h0, .inr (6, [.ref h1, .ref h2, .ref h3])), (h1, .inr (2, [.ref h4, .ref h5, .ref h6, .ref h7])), (h2, .inr (5, [.ref h1, .int 0])), (h3, .inr (4, [.ref h1, .ref h8, .int 0])), (h4, .inr (0, [.int 0, .ref z.1, .int 0])), (h5, .inr (0, [.int 0, .ref z.1, .int 0])), (h6, .inr (0, [.int 0, .ref z.1, .int 0])), (h7, .inr (0, [.int 0, .ref z.1, .int 0])), (h8, .inl (kc0, 8, .inl (fun _ => 0)))] s.heap.size = A at hD hX ⊢
  have hA : ∀ q : Nat, s.heap.size ≤ q → A q := fun q h => by rw [← hAe]; exact Or.inr h
  have hS : va_S A s.heap s.heap [] := va_S.rf
  have hl := lv_entry ([.ref h0, .int p0]) (n := 2) (Nat.le_of_ble_eq_true rfl)
  rw [lg_entry_eq]
  generalize (lg_sl ([.ref h0, .int p0]) ++ List.replicate (2 - (lg_sl ([.ref h0, .int p0])).length) Slot.unset).toArray = ls at hl ⊢
  have hl : lv_has ls 2 [(0, .ref h0), (1, .int p0)] := hl
  refine lv_aload_n hx hb dX6_addTest_0 rfl (lv_at hl 0 rfl) ?_
  refine lv_iload_n hx hb dX6_addTest_1 rfl (lv_at hl 1 rfl) ?_
  have hF1 := va_free (wc := [(h0, .inr (6, [.ref h1, .ref h2, .ref h3])), (h1, .inr (2, [.ref h4, .ref h5, .ref h6, .ref h7])), (h2, .inr (5, [.ref h1, .int 0])), (h3, .inr (4, [.ref h1, .ref h8, .int 0])), (h4, .inr (0, [.int 0, .ref z.1, .int 0])), (h5, .inr (0, [.int 0, .ref z.1, .int 0])), (h6, .inr (0, [.int 0, .ref z.1, .int 0])), (h7, .inr (0, [.int 0, .ref z.1, .int 0])), (h8, .inl (kc0, 8, .inl (fun _ => 0)))]) hD hS hA [0, 1, 2, 3, 4, 5, 6, 7, 8] rfl
  refine vx_callv (SX := Unit) (vx_runV (As := [.int p0]) (rest := []) ⟨hx, hb, hml, hown, hts⟩ (k278_requireRow l hl9 dC dI z h0 h1 h2 h3 h4 h5 h6 h7 h8 s.heap.size p0 kc0 hv0) (cwV 1 hts (gV q_650 q_651 q_652 q_69 q_649) rfl rfl rfl (by decide +kernel) ⟨Nat.le_of_ble_eq_true rfl, Nat.le_of_ble_eq_true rfl⟩) ⟨pc_blind, va_recv hK hP (ci := 6) (q0 := 0) rfl rfl, fun U hU hW => ⟨rfl, pc_mk hP hD hK hS hX hT [0, 1, 2, 3, 4, 5, 6, 7, 8] [0] rfl rfl rfl rfl hF1 hU hW⟩⟩ rfl rfl hl.1 rfl (lv_room (Nat.le_of_ble_eq_true rfl)) dX6_addTest_2 ⟨(Nat.le_of_ble_eq_true rfl), (Nat.le_of_ble_eq_true rfl)⟩) hS (fun q9 _ h9 => hF1 q9 h9) hF1 (fun q9 _ h9 => hF1 q9 h9) (fun E3 ce3 x3 v3 t3 H3 L3 ht3 hvm3 hw3 hB3 hz3 hk3 hS hc3 hn3 hf3 => ?_) (fun _ _ _ _ _ _ hw9 _ _ _ _ => hw9.elim)
  obtain ⟨hP, hD⟩ := pq_rest (wr := []) hP hD [0, 1, 2, 3, 4, 5, 6, 7, 8] [] rfl rfl (by decide) (by decide) hk3 hF1
  exact vx_out (fun x9 hx9 => (hnt x9 hx9).elim) hlocks hc3 hn3 hf3 (fun t9 ht9 hv9 => ⟨(), trivial, hB3, hS.F ht9⟩) hS.2.2 (by decide) (by decide)

set_option maxHeartbeats 4000000 in
set_option maxRecDepth 100000 in
theorem k280_addTest (l : Launch) (hl9 : l.stackTraces = false) (dC : Nat → ClassId) (dI : Nat → Nat → Nat) (z : XZ) (h0 h1 h2 h3 h4 h5 h6 h7 h8 h9 : Nat) (sz : Nat) (p0 : Int32) (kc0 kc1 : ClassId) (hv0 : xBt p0 0 0 = 0) : Met l yL_addTest (.codeWith yL_addTest cL_addTest 4 (some .int) [(0, 9, 12, 64), (0, 9, 15, 15)] :: wsL_law) ({ frames := 9, cells := 1, slots := 6, locals := 142 }) (va_Pc [.ref h0, .int p0, .ref h1] (PC (dC, dI) [(h0, .inr (6, [.ref h2, .ref h3, .ref h4])), (h1, .inl (kc0, 1, .inr (.inl (fun _ => 0)))), (h2, .inr (2, [.ref h5, .ref h6, .ref h7, .ref h8])), (h3, .inr (5, [.ref h2, .int 0])), (h4, .inr (4, [.ref h2, .ref h9, .int 0])), (h5, .inr (0, [.int 0, .ref z.1, .int 0])), (h6, .inr (0, [.int 0, .ref z.1, .int 0])), (h7, .inr (0, [.int 0, .ref z.1, .int 0])), (h8, .inr (0, [.int 0, .ref z.1, .int 0])), (h9, .inl (kc1, 8, .inl (fun _ => 0)))] [(kc0, .long), (kc1, .int)] sz z)) (va_Qi (fun (r : Int32) (_ : Unit) => r = 1) (fun (_ : Unit) (t : State) => PQ (dC, dI) [(h1, .inl (kc0, 1, .inr (.inl (fun _ => 0))))] [(kc0, .long)] (va_A [(h0, .inr (6, [.ref h2, .ref h3, .ref h4])), (h1, .inl (kc0, 1, .inr (.inl (fun _ => 0)))), (h2, .inr (2, [.ref h5, .ref h6, .ref h7, .ref h8])), (h3, .inr (5, [.ref h2, .int 0])), (h4, .inr (4, [.ref h2, .ref h9, .int 0])), (h5, .inr (0, [.int 0, .ref z.1, .int 0])), (h6, .inr (0, [.int 0, .ref z.1, .int 0])), (h7, .inr (0, [.int 0, .ref z.1, .int 0])), (h8, .inr (0, [.int 0, .ref z.1, .int 0])), (h9, .inl (kc1, 8, .inl (fun _ => 0)))] sz) t) (va_A [(h0, .inr (6, [.ref h2, .ref h3, .ref h4])), (h1, .inl (kc0, 1, .inr (.inl (fun _ => 0)))), (h2, .inr (2, [.ref h5, .ref h6, .ref h7, .ref h8])), (h3, .inr (5, [.ref h2, .int 0])), (h4, .inr (4, [.ref h2, .ref h9, .int 0])), (h5, .inr (0, [.int 0, .ref z.1, .int 0])), (h6, .inr (0, [.int 0, .ref z.1, .int 0])), (h7, .inr (0, [.int 0, .ref z.1, .int 0])), (h8, .inr (0, [.int 0, .ref z.1, .int 0])), (h9, .inl (kc1, 8, .inl (fun _ => 0)))] sz)) 1 6 (va_A [(h0, .inr (6, [.ref h2, .ref h3, .ref h4])), (h1, .inl (kc0, 1, .inr (.inl (fun _ => 0)))), (h2, .inr (2, [.ref h5, .ref h6, .ref h7, .ref h8])), (h3, .inr (5, [.ref h2, .int 0])), (h4, .inr (4, [.ref h2, .ref h9, .int 0])), (h5, .inr (0, [.int 0, .ref z.1, .int 0])), (h6, .inr (0, [.int 0, .ref z.1, .int 0])), (h7, .inr (0, [.int 0, .ref z.1, .int 0])), (h8, .inr (0, [.int 0, .ref z.1, .int 0])), (h9, .inl (kc1, 8, .inl (fun _ => 0)))] sz) := by
  refine va_MetW (cc := cL_addTest) (maxL := 4) (ret := (some .int)) (hh := [(0, 9, 12, 64), (0, 9, 15, 15)]) (by decide) rfl ?_
  intro p e s m args below meth c s₁ B hml hv
  obtain ⟨rfl, hsz, hP, hK, hD0, hX, hT⟩ := hv
  have hx := B.exec
  have hb := B.bytes
  have hr := B.returns
  have hts0 := atoms_spec (ws := .codeWith yL_addTest cL_addTest 4 (some .int) [(0, 9, 12, 64), (0, 9, 15, 15)] :: wsL_law) B.pre
  have htab := vx_table (x := yL_addTest) B (hts0 _ List.mem_cons_self)
  have hts := xTail hts0
  have hown : s.vm.findClass RL = some m.cls := findClass_of_methodNamed B.named
  have hlocks := B.notSynchronized
  subst hsz
  have hD := hD0.self (sz := s.heap.size)
  generalize hAe : va_A [(h0, .inr (6, [.ref h2, .ref h3, .ref h4])), (h1, .inl (kc0, 1, .inr (.inl (fun _ => 0)))), (h2, .inr (2, [.ref h5, .ref h6, .ref h7, .ref h8])), (h3, .inr (5, [.ref h2, .int 0])), (h4, .inr (4, [.ref h2, .ref h9, .int 0])), (h5, .inr (0, [.int 0, .ref z.1, .int 0])), (h6, .inr (0, [.int 0, .ref z.1, .int 0])), (h7, .inr (0, [.int 0, .ref z.1, .int 0])), (h8, .inr (0, [.int 0, .ref z.1, .int 0])), (h9, .inl (kc1, 8, .inl (fun _ => 0)))] s.heap.size = A at hD hX ⊢
  have hA : ∀ q : Nat, s.heap.size ≤ q → A q := fun q h => by rw [← hAe]; exact Or.inr h
  have hS : va_S A s.heap s.heap [] := va_S.rf
  have hl := lv_entry ([.ref h0, .int p0, .ref h1]) (n := 4) (Nat.le_of_ble_eq_true rfl)
  rw [lg_entry_eq]
  generalize (lg_sl ([.ref h0, .int p0, .ref h1]) ++ List.replicate (4 - (lg_sl ([.ref h0, .int p0, .ref h1])).length) Slot.unset).toArray = ls at hl ⊢
  have hl : lv_has ls 4 [(0, .ref h0), (1, .int p0), (2, .ref h1)] := hl
  refine lv_aload_n hx hb dL_addTest_0 rfl (lv_at hl 2 rfl) ?_
  refine lv_iconst (v := 0) hx hb dL_addTest_1 (by decide) ?_
  refine lv_aload_n hx hb dL_addTest_2 rfl (lv_at hl 0 rfl) ?_
  refine lv_iload_n hx hb dL_addTest_3 rfl (lv_at hl 1 rfl) ?_
  have hF1 := va_free (wc := [(h0, .inr (6, [.ref h2, .ref h3, .ref h4])), (h2, .inr (2, [.ref h5, .ref h6, .ref h7, .ref h8])), (h3, .inr (5, [.ref h2, .int 0])), (h4, .inr (4, [.ref h2, .ref h9, .int 0])), (h5, .inr (0, [.int 0, .ref z.1, .int 0])), (h6, .inr (0, [.int 0, .ref z.1, .int 0])), (h7, .inr (0, [.int 0, .ref z.1, .int 0])), (h8, .inr (0, [.int 0, .ref z.1, .int 0])), (h9, .inl (kc1, 8, .inl (fun _ => 0)))]) hD hS hA [0, 2, 3, 4, 5, 6, 7, 8, 9] rfl
  refine vx_calli (SX := Unit) (vx_runV (As := [.int p0]) (rest := [.int 0, .ref h1]) ⟨hx, hb, hml, hown, hts⟩ (k279_addTest l hl9 dC dI z h0 h2 h3 h4 h5 h6 h7 h8 h9 s.heap.size p0 kc1 hv0) (cwV 1 hts (gV q_654 q_655 q_656 q_69 q_653) rfl rfl rfl (by decide +kernel) ⟨Nat.le_of_ble_eq_true rfl, Nat.le_of_ble_eq_true rfl⟩) ⟨pc_blind, va_recv hK hP (ci := 6) (q0 := 0) rfl rfl, fun U hU hW => ⟨rfl, pc_mk hP hD hK hS hX hT [0, 2, 3, 4, 5, 6, 7, 8, 9] [1] rfl rfl rfl rfl hF1 hU hW⟩⟩ rfl rfl hl.1 rfl (lv_room (Nat.le_of_ble_eq_true rfl)) dL_addTest_4 ⟨(Nat.le_of_ble_eq_true rfl), (Nat.le_of_ble_eq_true rfl)⟩) hS (fun q9 _ h9 => hF1 q9 h9) hF1 (fun q9 _ h9 => hF1 q9 h9) (fun E3 ce3 x3 v3 t3 H3 L3 ht3 hvm3 hw3 hB3 hz3 hk3 hS hc3 hn3 hf3 => ?_) (fun _ _ _ _ _ _ _ hw9 _ _ _ _ => hw9.elim)
  obtain ⟨hP, hD⟩ := pq_rest (wr := [(h1, .inl (kc0, 1, .inr (.inl (fun _ => 0))))]) hP hD [0, 2, 3, 4, 5, 6, 7, 8, 9] [1] rfl rfl (by decide) (by decide) hk3 hF1
  subst hB3
  refine vx_catch (own := RL) (name := "java/util/NoSuchElementException") hown [] ⟨0, 9, 12, 64⟩ [⟨0, 9, 15, 15⟩] htab (fun z9 hz9 => absurd hz9 List.not_mem_nil) (by decide) (by decide) (hts _ q_657) (va_Nw.use rfl (hT.2.1.1 ("java/util/NoSuchElementException", "java/util/NoSuchElementException") (by decide))) hc3 hn3 hf3 ?_
  refine lv_astore_n (lv' := [(3, .ref x3), (0, .ref h0), (1, .int p0), (2, .ref h1)]) hx hb dL_addTest_12 rfl hl (by decide) rfl (fun ls hl => ?_)
  refine lv_iconst (v := 1) hx hb dL_addTest_13 (by decide) ?_
  exact W.iret (v := 1) hx hb hr (fun t9 ht9 hW9 => ⟨⟨1, (), rfl, rfl, pq_mk (wc := [(h1, .inl (kc0, 1, .inr (.inl (fun _ => 0))))]) (tc := [(kc0, .long)]) hP hD hK [0] [0] rfl rfl rfl rfl ht9 hW9⟩, hS.F ht9⟩) hS.2.2 dL_addTest_14
