set_option maxHeartbeats 4000000 in
set_option maxRecDepth 100000 in
theorem k1_init (l : Launch) (hl9 : l.stackTraces = false) (dC : Nat → ClassId) (dI : Nat → Nat → Nat) (z : XZ) (h0 : Nat) (sz : Nat) : Met l yJxa1e45_init_da8c8 (.code yJxa1e45_init_da8c8 cJxa1e45_init_da8c8 1 none :: wsL_law) ({ frames := 1, cells := 0, slots := 0, locals := 16 }) (va_Pc [.ref h0] (PC (dC, dI) [(h0, .inr (0, [.int 0, .null, .int 0]))] [] sz z)) (va_Qv (fun (_ : Unit) => True) (fun (_ : Unit) (t : State) => PQ (dC, dI) [(h0, .inr (0, [.int 0, .null, .int 0]))] [] (va_A [(h0, .inr (0, [.int 0, .null, .int 0]))] sz) t) (va_A [(h0, .inr (0, [.int 0, .null, .int 0]))] sz)) 0 0 (va_A [(h0, .inr (0, [.int 0, .null, .int 0]))] sz) := by
  refine Met.ofW (cc := cJxa1e45_init_da8c8) (maxL := 1) (ret := none) (by decide) rfl ?_
  intro p e s m args below meth c s₁ B hml hv
  obtain ⟨rfl, hsz, hP, hK, hD0, hX, hT⟩ := hv
  have hx := B.exec
  have hb := B.bytes
  have hr := B.returns
  have hts0 := atoms_spec (ws := .code yJxa1e45_init_da8c8 cJxa1e45_init_da8c8 1 none :: wsL_law) B.pre
  have hts := xTail hts0
  have hown : s.vm.findClass RJxa1e45 = some m.cls := findClass_of_methodNamed B.named
  have hlocks := B.notSynchronized
  have hin : meth.name = "<init>" := (name_of_methodNamed B.named B.method).1
  subst hsz
  have hD := hD0.self (sz := s.heap.size)
  generalize hAe : va_A [(h0, .inr (0, [.int 0, .null, .int 0]))] s.heap.size = A at hD hX ⊢
  have hA : ∀ q : Nat, s.heap.size ≤ q → A q := fun q h => by rw [← hAe]; exact Or.inr h
  have hS : va_S A s.heap s.heap [] := va_S.rf
  have hl := lv_entry ([.ref h0]) (n := 1) (Nat.le_of_ble_eq_true rfl)
  rw [lg_entry_eq]
  generalize (lg_sl ([.ref h0]) ++ List.replicate (1 - (lg_sl ([.ref h0])).length) Slot.unset).toArray = ls at hl ⊢
  have hl : lv_has ls 1 [(0, .ref h0)] := hl
  refine lv_aload_n hx hb dJxa1e45_init_da8c8_0 rfl (lv_at hl 0 rfl) ?_
  refine W.objInit hx hb hown (hts _ q_10) (hts _ q_1) (hts _ q_2) rfl (by rw [hml]; exact hl.1) rfl dJxa1e45_init_da8c8_1 (Nat.le_of_ble_eq_true rfl) (Nat.le_of_ble_eq_true rfl) ?_
  refine W.eq (g2 := F0 m 4 ls []) rfl ?_
  exact W.vret hx hb hr (fun t9 ht9 hW9 => ⟨⟨(), rfl, trivial, pq_mk (wc := [(h0, .inr (0, [.int 0, .null, .int 0]))]) (tc := []) hP hD hK [0] [] rfl rfl rfl rfl ht9 hW9⟩, hS.F ht9⟩) hS.2.2 dJxa1e45_init_da8c8_4

set_option maxHeartbeats 4000000 in
set_option maxRecDepth 100000 in
theorem k2_init (l : Launch) (hl9 : l.stackTraces = false) (dC : Nat → ClassId) (dI : Nat → Nat → Nat) (z : XZ) (h0 : Nat) (sz : Nat) : Met l yJxc12de_init_da8c8 (.code yJxc12de_init_da8c8 cJxc12de_init_da8c8 1 none :: wsL_law) ({ frames := 2, cells := 0, slots := 0, locals := 36 }) (va_Pc [.ref h0] (PC (dC, dI) [(h0, .inr (0, [.int 0, .null, .int 0]))] [] sz z)) (va_Qv (fun (_ : Unit) => True) (fun (_ : Unit) (t : State) => PQ (dC, dI) [(h0, .inr (0, [.int 0, .null, .int 0]))] [] (va_A [(h0, .inr (0, [.int 0, .null, .int 0]))] sz) t) (va_A [(h0, .inr (0, [.int 0, .null, .int 0]))] sz)) 0 0 (va_A [(h0, .inr (0, [.int 0, .null, .int 0]))] sz) := by
  refine Met.ofW (cc := cJxc12de_init_da8c8) (maxL := 1) (ret := none) (by decide) rfl ?_
  intro p e s m args below meth c s₁ B hml hv
  obtain ⟨rfl, hsz, hP, hK, hD0, hX, hT⟩ := hv
  have hx := B.exec
  have hb := B.bytes
  have hr := B.returns
  have hts0 := atoms_spec (ws := .code yJxc12de_init_da8c8 cJxc12de_init_da8c8 1 none :: wsL_law) B.pre
  have hts := xTail hts0
  have hown : s.vm.findClass RJxc12de = some m.cls := findClass_of_methodNamed B.named
  have hlocks := B.notSynchronized
  have hin : meth.name = "<init>" := (name_of_methodNamed B.named B.method).1
  subst hsz
  have hD := hD0.self (sz := s.heap.size)
  generalize hAe : va_A [(h0, .inr (0, [.int 0, .null, .int 0]))] s.heap.size = A at hD hX ⊢
  have hA : ∀ q : Nat, s.heap.size ≤ q → A q := fun q h => by rw [← hAe]; exact Or.inr h
  have hS : va_S A s.heap s.heap [] := va_S.rf
  have hl := lv_entry ([.ref h0]) (n := 1) (Nat.le_of_ble_eq_true rfl)
  rw [lg_entry_eq]
  generalize (lg_sl ([.ref h0]) ++ List.replicate (1 - (lg_sl ([.ref h0])).length) Slot.unset).toArray = ls at hl ⊢
  have hl : lv_has ls 1 [(0, .ref h0)] := hl
  refine lv_aload_n hx hb dJxc12de_init_da8c8_0 rfl (lv_at hl 0 rfl) ?_
  have hF1 := va_free (wc := [(h0, .inr (0, [.int 0, .null, .int 0]))]) hD hS hA [0] rfl
  refine va_callv (va_runI (As := []) (rest := []) ⟨hx, hb, hml, hown, hts⟩ (k1_init l hl9 dC dI z h0 s.heap.size) (cwI 0 hts (gIL q_11) rfl rfl rfl (hts _ q_12) (hts _ q_13) (hts _ q_14) rfl (by decide +kernel) ⟨Nat.le_of_ble_eq_true rfl, Nat.le_of_ble_eq_true rfl⟩) ⟨pc_blind, fun U hU hW => ⟨rfl, pc_mk hP hD hK hS hX hT [0] [] rfl rfl rfl rfl hF1 hU hW⟩⟩ rfl rfl hl.1 rfl (lv_room (Nat.le_of_ble_eq_true rfl)) dJxc12de_init_da8c8_1 ⟨(Nat.le_of_ble_eq_true rfl), (Nat.le_of_ble_eq_true rfl)⟩) hS (fun q9 _ h9 => hF1 q9 h9) hF1 (fun u3 t3 H3 L3 ht3 hvm3 hw3 hB3 hz3 hk3 hS => ?_)
  obtain ⟨hP, hD, hK⟩ := pq_join (wr := []) (tr := []) (wz := [(h0, .inr (0, [.int 0, .null, .int 0]))]) (tz := []) hP hD hK [0] [] [] rfl rfl (by decide) (by decide) rfl hk3 hF1 hB3 ht3 hvm3 rfl rfl
  refine lv_aload_n hx hb dJxc12de_init_da8c8_4 rfl (lv_at hl 0 rfl) ?_
  refine lv_iconst (v := 0) hx hb dJxc12de_init_da8c8_5 (by decide) ?_
  refine va_put (D := (dC, dI)) (ci := 0) (v := .int 0) (ty := .int) (C := RJx4a65c) (T := TJx4a65c) (N := 3) hx hb hts in_Jx4a65c tyJx4a65c tyJx4a65c_ok nmJx4a65c hown hK hP hD hS 0 rfl rfl 0 (by decide) (hts _ q_15) (fun _ h9 => h9) rfl (by decide +kernel) rfl rfl (Nat.le_of_ble_eq_true rfl) dJxc12de_init_da8c8_6 (fun H5 _ hP hD hS => ?_)
  have hP : va_P (dC, dI) xCl [(h0, .inr (0, [.int 0, .null, .int 0]))] H5 := hP
  have hD : va_D A [(h0, .inr (0, [.int 0, .null, .int 0]))] := hD
  exact W.vret hx hb hr (fun t9 ht9 hW9 => ⟨⟨(), rfl, trivial, pq_mk (wc := [(h0, .inr (0, [.int 0, .null, .int 0]))]) (tc := []) hP hD hK [0] [] rfl rfl rfl rfl ht9 hW9⟩, hS.F ht9⟩) hS.2.2 dJxc12de_init_da8c8_9

set_option maxHeartbeats 4000000 in
set_option maxRecDepth 100000 in
theorem k3_init (l : Launch) (hl9 : l.stackTraces = false) (dC : Nat → ClassId) (dI : Nat → Nat → Nat) (z : XZ) (h0 : Nat) (sz : Nat) : Met l yJx4a65c_init_da8c8 (.code yJx4a65c_init_da8c8 cJx4a65c_init_da8c8 1 none :: wsL_law) ({ frames := 3, cells := 0, slots := 0, locals := 56 }) (va_Pc [.ref h0] (PC (dC, dI) [(h0, .inr (0, [.int 0, .null, .int 0]))] [] sz z)) (va_Qv (fun (_ : Unit) => True) (fun (_ : Unit) (t : State) => PQ (dC, dI) [(h0, .inr (0, [.int 0, .ref z.1, .int 0]))] [] (va_A [(h0, .inr (0, [.int 0, .null, .int 0]))] sz) t) (va_A [(h0, .inr (0, [.int 0, .null, .int 0]))] sz)) 0 0 (va_A [(h0, .inr (0, [.int 0, .null, .int 0]))] sz) := by
  refine Met.ofW (cc := cJx4a65c_init_da8c8) (maxL := 1) (ret := none) (by decide) rfl ?_
  intro p e s m args below meth c s₁ B hml hv
  obtain ⟨rfl, hsz, hP, hK, hD0, hX, hT⟩ := hv
  have hx := B.exec
  have hb := B.bytes
  have hr := B.returns
  have hts0 := atoms_spec (ws := .code yJx4a65c_init_da8c8 cJx4a65c_init_da8c8 1 none :: wsL_law) B.pre
  have hts := xTail hts0
  have hown : s.vm.findClass RJx4a65c = some m.cls := findClass_of_methodNamed B.named
  have hlocks := B.notSynchronized
  have hin : meth.name = "<init>" := (name_of_methodNamed B.named B.method).1
  subst hsz
  have hD := hD0.self (sz := s.heap.size)
  generalize hAe : va_A [(h0, .inr (0, [.int 0, .null, .int 0]))] s.heap.size = A at hD hX ⊢
  have hA : ∀ q : Nat, s.heap.size ≤ q → A q := fun q h => by rw [← hAe]; exact Or.inr h
  have hS : va_S A s.heap s.heap [] := va_S.rf
  have hl := lv_entry ([.ref h0]) (n := 1) (Nat.le_of_ble_eq_true rfl)
  rw [lg_entry_eq]
  generalize (lg_sl ([.ref h0]) ++ List.replicate (1 - (lg_sl ([.ref h0])).length) Slot.unset).toArray = ls at hl ⊢
  have hl : lv_has ls 1 [(0, .ref h0)] := hl
  refine lv_aload_n hx hb dJx4a65c_init_da8c8_0 rfl (lv_at hl 0 rfl) ?_
  have hF1 := va_free (wc := [(h0, .inr (0, [.int 0, .null, .int 0]))]) hD hS hA [0] rfl
  refine va_callv (va_runI (As := []) (rest := []) ⟨hx, hb, hml, hown, hts⟩ (k2_init l hl9 dC dI z h0 s.heap.size) (cwI 0 hts (gIL q_16) rfl rfl rfl (hts _ q_17) (hts _ q_18) (hts _ q_19) rfl (by decide +kernel) ⟨Nat.le_of_ble_eq_true rfl, Nat.le_of_ble_eq_true rfl⟩) ⟨pc_blind, fun U hU hW => ⟨rfl, pc_mk hP hD hK hS hX hT [0] [] rfl rfl rfl rfl hF1 hU hW⟩⟩ rfl rfl hl.1 rfl (lv_room (Nat.le_of_ble_eq_true rfl)) dJx4a65c_init_da8c8_1 ⟨(Nat.le_of_ble_eq_true rfl), (Nat.le_of_ble_eq_true rfl)⟩) hS (fun q9 _ h9 => hF1 q9 h9) hF1 (fun u3 t3 H3 L3 ht3 hvm3 hw3 hB3 hz3 hk3 hS => ?_)
  obtain ⟨hP, hD, hK⟩ := pq_join (wr := []) (tr := []) (wz := [(h0, .inr (0, [.int 0, .null, .int 0]))]) (tz := []) hP hD hK [0] [] [] rfl rfl (by decide) (by decide) rfl hk3 hF1 hB3 ht3 hvm3 rfl rfl
  refine lv_aload_n hx hb dJx4a65c_init_da8c8_4 rfl (lv_at hl 0 rfl) ?_
  refine va_gets (own := RJx4a65c) (ref := "java/util/ArrayList") hx hb hX.1.1 hS hown (hts _ q_20) (fun _ h9 => h9) dJx4a65c_init_da8c8_5 ?_
  refine va_put (D := (dC, dI)) (ci := 0) (v := .ref z.1) (ty := .array (.object "java/lang/Object")) (C := RJx4a65c) (T := TJx4a65c) (N := 3) hx hb hts in_Jx4a65c tyJx4a65c tyJx4a65c_ok nmJx4a65c hown hK hP hD hS 0 rfl rfl 1 (by decide) (hts _ q_21) (fun _ h9 => h9) rfl (by decide +kernel) rfl rfl (Nat.le_of_ble_eq_true rfl) dJx4a65c_init_da8c8_8 (fun H5 _ hP hD hS => ?_)
  have hP : va_P (dC, dI) xCl [(h0, .inr (0, [.int 0, .ref z.1, .int 0]))] H5 := hP
  have hD : va_D A [(h0, .inr (0, [.int 0, .ref z.1, .int 0]))] := hD
  exact W.vret hx hb hr (fun t9 ht9 hW9 => ⟨⟨(), rfl, trivial, pq_mk (wc := [(h0, .inr (0, [.int 0, .ref z.1, .int 0]))]) (tc := []) hP hD hK [0] [] rfl rfl rfl rfl ht9 hW9⟩, hS.F ht9⟩) hS.2.2 dJx4a65c_init_da8c8_11

set_option maxHeartbeats 4000000 in
set_option maxRecDepth 100000 in
theorem k4_init (l : Launch) (hl9 : l.stackTraces = false) (dC : Nat → ClassId) (dI : Nat → Nat → Nat) (z : XZ) (h0 : Nat) (sz : Nat) : Met l yX0_init (.code yX0_init cX0_init 1 none :: wsL_law) ({ frames := 4, cells := 4, slots := 12, locals := 76 }) (va_Pc [.ref h0] (PC (dC, dI) [(h0, .inr (2, [.null, .null, .null, .null]))] [] sz z)) (va_Qv (fun (_ : Unit) => True) (fun (_ : Unit) (t : State) => ∃ (n0 n1 n2 n3 : Nat), PQ (dC, dI) [(h0, .inr (2, [.ref n0, .ref n1, .ref n2, .ref n3])), (n0, .inr (0, [.int 0, .ref z.1, .int 0])), (n1, .inr (0, [.int 0, .ref z.1, .int 0])), (n2, .inr (0, [.int 0, .ref z.1, .int 0])), (n3, .inr (0, [.int 0, .ref z.1, .int 0]))] [] (va_A [(h0, .inr (2, [.null, .null, .null, .null]))] sz) t) (va_A [(h0, .inr (2, [.null, .null, .null, .null]))] sz)) 4 12 (va_A [(h0, .inr (2, [.null, .null, .null, .null]))] sz) := by
  refine Met.ofW (cc := cX0_init) (maxL := 1) (ret := none) (by decide) rfl ?_
  intro p e s m args below meth c s₁ B hml hv
  obtain ⟨rfl, hsz, hP, hK, hD0, hX, hT⟩ := hv
  have hx := B.exec
  have hb := B.bytes
  have hr := B.returns
  have hts0 := atoms_spec (ws := .code yX0_init cX0_init 1 none :: wsL_law) B.pre
  have hts := xTail hts0
  have hown : s.vm.findClass RX0 = some m.cls := findClass_of_methodNamed B.named
  have hlocks := B.notSynchronized
  have hin : meth.name = "<init>" := (name_of_methodNamed B.named B.method).1
  subst hsz
  have hD := hD0.self (sz := s.heap.size)
  generalize hAe : va_A [(h0, .inr (2, [.null, .null, .null, .null]))] s.heap.size = A at hD hX ⊢
  have hA : ∀ q : Nat, s.heap.size ≤ q → A q := fun q h => by rw [← hAe]; exact Or.inr h
  have hS : va_S A s.heap s.heap [] := va_S.rf
  have hl := lv_entry ([.ref h0]) (n := 1) (Nat.le_of_ble_eq_true rfl)
  rw [lg_entry_eq]
  generalize (lg_sl ([.ref h0]) ++ List.replicate (1 - (lg_sl ([.ref h0])).length) Slot.unset).toArray = ls at hl ⊢
  have hl : lv_has ls 1 [(0, .ref h0)] := hl
  refine lv_aload_n hx hb dX0_init_0 rfl (lv_at hl 0 rfl) ?_
  refine W.objInit hx hb hown (hts _ q_6) (hts _ q_1) (hts _ q_2) rfl (by rw [hml]; exact hl.1) rfl dX0_init_1 (Nat.le_of_ble_eq_true rfl) (Nat.le_of_ble_eq_true rfl) ?_
  refine W.eq (g2 := F0 m 4 ls []) rfl ?_
  refine lv_aload_n hx hb dX0_init_4 rfl (lv_at hl 0 rfl) ?_
  refine va_new (ci := 0) (fs := [.int 0, .null, .int 0]) (C := RJx4a65c) (T := TJx4a65c) (N := 3) hx hb hts in_Jx4a65c tyJx4a65c tyJx4a65c_ok hown (hts _ q_7) (hts _ q_8) (hts _ q_9) hK hP hD hS hA rfl nf_Jx4a65c (Nat.le_of_ble_eq_true rfl) (Nat.le_of_ble_eq_true rfl) dX0_init_5 (fun a1 H2 hP hD hS => ?_)
  have hP : va_P (dC, dI) xCl [(h0, .inr (2, [.null, .null, .null, .null])), (a1, .inr (0, [.int 0, .null, .int 0]))] H2 := hP
  have hD : va_D A [(h0, .inr (2, [.null, .null, .null, .null])), (a1, .inr (0, [.int 0, .null, .int 0]))] := hD
  refine W.widen (k := 1) (n := 3) (by decide) (by decide) ?_
  refine lv_dup hx hb dX0_init_8 rfl ?_
  have hF3 := va_free (wc := [(a1, .inr (0, [.int 0, .null, .int 0]))]) hD hS hA [1] rfl
  refine va_callv (va_runI (As := []) (rest := [.ref a1, .ref h0]) ⟨hx, hb, hml, hown, hts⟩ (k3_init l hl9 dC dI z a1 H2.size) (cwI 0 hts (gIL q_22) rfl rfl rfl (hts _ q_9) (hts _ q_23) (hts _ q_24) rfl (by decide +kernel) ⟨Nat.le_of_ble_eq_true rfl, Nat.le_of_ble_eq_true rfl⟩) ⟨pc_blind, fun U hU hW => ⟨rfl, pc_mk hP hD hK hS hX hT [1] [] rfl rfl rfl rfl hF3 hU hW⟩⟩ rfl rfl hl.1 rfl (lv_room (Nat.le_of_ble_eq_true rfl)) dX0_init_9 ⟨(Nat.le_of_ble_eq_true rfl), (Nat.le_of_ble_eq_true rfl)⟩) hS (fun q9 _ h9 => hF3 q9 h9) hF3 (fun u5 t5 H5 L5 ht5 hvm5 hw5 hB5 hz5 hk5 hS => ?_)
  obtain ⟨hP, hD, hK⟩ := pq_join (wr := [(h0, .inr (2, [.null, .null, .null, .null]))]) (tr := []) (wz := [(h0, .inr (2, [.null, .null, .null, .null])), (a1, .inr (0, [.int 0, .ref z.1, .int 0]))]) (tz := []) hP hD hK [1] [0] [] rfl rfl (by decide) (by decide) rfl hk5 hF3 hB5 ht5 hvm5 rfl rfl
  refine va_putF (D := (dC, dI)) (ci := 2) (v := .ref a1) (ty := .object "java/util/ArrayList") (C := RX0) (T := TX0) (N := 4) hx hb hts in_X0 tyX0 tyX0_ok nmX0 hown hK hP hD hS 0 rfl rfl 0 (by decide) (hts _ q_25) (fun _ h9 => h9) rfl hin rfl (by decide +kernel) rfl rfl (Nat.le_of_ble_eq_true rfl) dX0_init_12 (fun H7 _ hP hD hS => ?_)
  have hP : va_P (dC, dI) xCl [(h0, .inr (2, [.ref a1, .null, .null, .null])), (a1, .inr (0, [.int 0, .ref z.1, .int 0]))] H7 := hP
  have hD : va_D A [(h0, .inr (2, [.ref a1, .null, .null, .null])), (a1, .inr (0, [.int 0, .ref z.1, .int 0]))] := hD
  refine lv_aload_n hx hb dX0_init_15 rfl (lv_at hl 0 rfl) ?_
  refine va_new (ci := 0) (fs := [.int 0, .null, .int 0]) (C := RJx4a65c) (T := TJx4a65c) (N := 3) hx hb hts in_Jx4a65c tyJx4a65c tyJx4a65c_ok hown (hts _ q_7) (hts _ q_8) (hts _ q_9) hK hP hD hS hA rfl nf_Jx4a65c (Nat.le_of_ble_eq_true rfl) (Nat.le_of_ble_eq_true rfl) dX0_init_16 (fun a8 H9 hP hD hS => ?_)
  have hP : va_P (dC, dI) xCl [(h0, .inr (2, [.ref a1, .null, .null, .null])), (a1, .inr (0, [.int 0, .ref z.1, .int 0])), (a8, .inr (0, [.int 0, .null, .int 0]))] H9 := hP
  have hD : va_D A [(h0, .inr (2, [.ref a1, .null, .null, .null])), (a1, .inr (0, [.int 0, .ref z.1, .int 0])), (a8, .inr (0, [.int 0, .null, .int 0]))] := hD
  refine W.widen (k := 2) (n := 6) (by decide) (by decide) ?_
  refine lv_dup hx hb dX0_init_19 rfl ?_
  have hF10 := va_free (wc := [(a8, .inr (0, [.int 0, .null, .int 0]))]) hD hS hA [2] rfl
  refine va_callv (va_runI (As := []) (rest := [.ref a8, .ref h0]) ⟨hx, hb, hml, hown, hts⟩ (k3_init l hl9 dC dI z a8 H9.size) (cwI 0 hts (gIL q_22) rfl rfl rfl (hts _ q_9) (hts _ q_23) (hts _ q_24) rfl (by decide +kernel) ⟨Nat.le_of_ble_eq_true rfl, Nat.le_of_ble_eq_true rfl⟩) ⟨pc_blind, fun U hU hW => ⟨rfl, pc_mk hP hD hK hS hX hT [2] [] rfl rfl rfl rfl hF10 hU hW⟩⟩ rfl rfl hl.1 rfl (lv_room (Nat.le_of_ble_eq_true rfl)) dX0_init_20 ⟨(Nat.le_of_ble_eq_true rfl), (Nat.le_of_ble_eq_true rfl)⟩) hS (fun q9 _ h9 => hF10 q9 h9) hF10 (fun u12 t12 H12 L12 ht12 hvm12 hw12 hB12 hz12 hk12 hS => ?_)
  obtain ⟨hP, hD, hK⟩ := pq_join (wr := [(h0, .inr (2, [.ref a1, .null, .null, .null])), (a1, .inr (0, [.int 0, .ref z.1, .int 0]))]) (tr := []) (wz := [(h0, .inr (2, [.ref a1, .null, .null, .null])), (a1, .inr (0, [.int 0, .ref z.1, .int 0])), (a8, .inr (0, [.int 0, .ref z.1, .int 0]))]) (tz := []) hP hD hK [2] [0, 1] [] rfl rfl (by decide) (by decide) rfl hk12 hF10 hB12 ht12 hvm12 rfl rfl
  refine va_putF (D := (dC, dI)) (ci := 2) (v := .ref a8) (ty := .object "java/util/ArrayList") (C := RX0) (T := TX0) (N := 4) hx hb hts in_X0 tyX0 tyX0_ok nmX0 hown hK hP hD hS 0 rfl rfl 1 (by decide) (hts _ q_26) (fun _ h9 => h9) rfl hin rfl (by decide +kernel) rfl rfl (Nat.le_of_ble_eq_true rfl) dX0_init_23 (fun H14 _ hP hD hS => ?_)
  have hP : va_P (dC, dI) xCl [(h0, .inr (2, [.ref a1, .ref a8, .null, .null])), (a1, .inr (0, [.int 0, .ref z.1, .int 0])), (a8, .inr (0, [.int 0, .ref z.1, .int 0]))] H14 := hP
  have hD : va_D A [(h0, .inr (2, [.ref a1, .ref a8, .null, .null])), (a1, .inr (0, [.int 0, .ref z.1, .int 0])), (a8, .inr (0, [.int 0, .ref z.1, .int 0]))] := hD
  refine lv_aload_n hx hb dX0_init_26 rfl (lv_at hl 0 rfl) ?_
  refine va_new (ci := 0) (fs := [.int 0, .null, .int 0]) (C := RJx4a65c) (T := TJx4a65c) (N := 3) hx hb hts in_Jx4a65c tyJx4a65c tyJx4a65c_ok hown (hts _ q_7) (hts _ q_8) (hts _ q_9) hK hP hD hS hA rfl nf_Jx4a65c (Nat.le_of_ble_eq_true rfl) (Nat.le_of_ble_eq_true rfl) dX0_init_27 (fun a15 H16 hP hD hS => ?_)
  have hP : va_P (dC, dI) xCl [(h0, .inr (2, [.ref a1, .ref a8, .null, .null])), (a1, .inr (0, [.int 0, .ref z.1, .int 0])), (a8, .inr (0, [.int 0, .ref z.1, .int 0])), (a15, .inr (0, [.int 0, .null, .int 0]))] H16 := hP
  have hD : va_D A [(h0, .inr (2, [.ref a1, .ref a8, .null, .null])), (a1, .inr (0, [.int 0, .ref z.1, .int 0])), (a8, .inr (0, [.int 0, .ref z.1, .int 0])), (a15, .inr (0, [.int 0, .null, .int 0]))] := hD
  refine W.widen (k := 3) (n := 9) (by decide) (by decide) ?_
  refine lv_dup hx hb dX0_init_30 rfl ?_
  have hF17 := va_free (wc := [(a15, .inr (0, [.int 0, .null, .int 0]))]) hD hS hA [3] rfl
  refine va_callv (va_runI (As := []) (rest := [.ref a15, .ref h0]) ⟨hx, hb, hml, hown, hts⟩ (k3_init l hl9 dC dI z a15 H16.size) (cwI 0 hts (gIL q_22) rfl rfl rfl (hts _ q_9) (hts _ q_23) (hts _ q_24) rfl (by decide +kernel) ⟨Nat.le_of_ble_eq_true rfl, Nat.le_of_ble_eq_true rfl⟩) ⟨pc_blind, fun U hU hW => ⟨rfl, pc_mk hP hD hK hS hX hT [3] [] rfl rfl rfl rfl hF17 hU hW⟩⟩ rfl rfl hl.1 rfl (lv_room (Nat.le_of_ble_eq_true rfl)) dX0_init_31 ⟨(Nat.le_of_ble_eq_true rfl), (Nat.le_of_ble_eq_true rfl)⟩) hS (fun q9 _ h9 => hF17 q9 h9) hF17 (fun u19 t19 H19 L19 ht19 hvm19 hw19 hB19 hz19 hk19 hS => ?_)
  obtain ⟨hP, hD, hK⟩ := pq_join (wr := [(h0, .inr (2, [.ref a1, .ref a8, .null, .null])), (a1, .inr (0, [.int 0, .ref z.1, .int 0])), (a8, .inr (0, [.int 0, .ref z.1, .int 0]))]) (tr := []) (wz := [(h0, .inr (2, [.ref a1, .ref a8, .null, .null])), (a1, .inr (0, [.int 0, .ref z.1, .int 0])), (a8, .inr (0, [.int 0, .ref z.1, .int 0])), (a15, .inr (0, [.int 0, .ref z.1, .int 0]))]) (tz := []) hP hD hK [3] [0, 1, 2] [] rfl rfl (by decide) (by decide) rfl hk19 hF17 hB19 ht19 hvm19 rfl rfl
  refine va_putF (D := (dC, dI)) (ci := 2) (v := .ref a15) (ty := .object "java/util/ArrayList") (C := RX0) (T := TX0) (N := 4) hx hb hts in_X0 tyX0 tyX0_ok nmX0 hown hK hP hD hS 0 rfl rfl 2 (by decide) (hts _ q_27) (fun _ h9 => h9) rfl hin rfl (by decide +kernel) rfl rfl (Nat.le_of_ble_eq_true rfl) dX0_init_34 (fun H21 _ hP hD hS => ?_)
  have hP : va_P (dC, dI) xCl [(h0, .inr (2, [.ref a1, .ref a8, .ref a15, .null])), (a1, .inr (0, [.int 0, .ref z.1, .int 0])), (a8, .inr (0, [.int 0, .ref z.1, .int 0])), (a15, .inr (0, [.int 0, .ref z.1, .int 0]))] H21 := hP
  have hD : va_D A [(h0, .inr (2, [.ref a1, .ref a8, .ref a15, .null])), (a1, .inr (0, [.int 0, .ref z.1, .int 0])), (a8, .inr (0, [.int 0, .ref z.1, .int 0])), (a15, .inr (0, [.int 0, .ref z.1, .int 0]))] := hD
  refine lv_aload_n hx hb dX0_init_37 rfl (lv_at hl 0 rfl) ?_
  refine va_new (ci := 0) (fs := [.int 0, .null, .int 0]) (C := RJx4a65c) (T := TJx4a65c) (N := 3) hx hb hts in_Jx4a65c tyJx4a65c tyJx4a65c_ok hown (hts _ q_7) (hts _ q_8) (hts _ q_9) hK hP hD hS hA rfl nf_Jx4a65c (Nat.le_of_ble_eq_true rfl) (Nat.le_of_ble_eq_true rfl) dX0_init_38 (fun a22 H23 hP hD hS => ?_)
  have hP : va_P (dC, dI) xCl [(h0, .inr (2, [.ref a1, .ref a8, .ref a15, .null])), (a1, .inr (0, [.int 0, .ref z.1, .int 0])), (a8, .inr (0, [.int 0, .ref z.1, .int 0])), (a15, .inr (0, [.int 0, .ref z.1, .int 0])), (a22, .inr (0, [.int 0, .null, .int 0]))] H23 := hP
  have hD : va_D A [(h0, .inr (2, [.ref a1, .ref a8, .ref a15, .null])), (a1, .inr (0, [.int 0, .ref z.1, .int 0])), (a8, .inr (0, [.int 0, .ref z.1, .int 0])), (a15, .inr (0, [.int 0, .ref z.1, .int 0])), (a22, .inr (0, [.int 0, .null, .int 0]))] := hD
  refine W.widen (k := 4) (n := 12) (by decide) (by decide) ?_
  refine lv_dup hx hb dX0_init_41 rfl ?_
  have hF24 := va_free (wc := [(a22, .inr (0, [.int 0, .null, .int 0]))]) hD hS hA [4] rfl
  refine va_callv (va_runI (As := []) (rest := [.ref a22, .ref h0]) ⟨hx, hb, hml, hown, hts⟩ (k3_init l hl9 dC dI z a22 H23.size) (cwI 0 hts (gIL q_22) rfl rfl rfl (hts _ q_9) (hts _ q_23) (hts _ q_24) rfl (by decide +kernel) ⟨Nat.le_of_ble_eq_true rfl, Nat.le_of_ble_eq_true rfl⟩) ⟨pc_blind, fun U hU hW => ⟨rfl, pc_mk hP hD hK hS hX hT [4] [] rfl rfl rfl rfl hF24 hU hW⟩⟩ rfl rfl hl.1 rfl (lv_room (Nat.le_of_ble_eq_true rfl)) dX0_init_42 ⟨(Nat.le_of_ble_eq_true rfl), (Nat.le_of_ble_eq_true rfl)⟩) hS (fun q9 _ h9 => hF24 q9 h9) hF24 (fun u26 t26 H26 L26 ht26 hvm26 hw26 hB26 hz26 hk26 hS => ?_)
  obtain ⟨hP, hD, hK⟩ := pq_join (wr := [(h0, .inr (2, [.ref a1, .ref a8, .ref a15, .null])), (a1, .inr (0, [.int 0, .ref z.1, .int 0])), (a8, .inr (0, [.int 0, .ref z.1, .int 0])), (a15, .inr (0, [.int 0, .ref z.1, .int 0]))]) (tr := []) (wz := [(h0, .inr (2, [.ref a1, .ref a8, .ref a15, .null])), (a1, .inr (0, [.int 0, .ref z.1, .int 0])), (a8, .inr (0, [.int 0, .ref z.1, .int 0])), (a15, .inr (0, [.int 0, .ref z.1, .int 0])), (a22, .inr (0, [.int 0, .ref z.1, .int 0]))]) (tz := []) hP hD hK [4] [0, 1, 2, 3] [] rfl rfl (by decide) (by decide) rfl hk26 hF24 hB26 ht26 hvm26 rfl rfl
  refine va_putF (D := (dC, dI)) (ci := 2) (v := .ref a22) (ty := .object "java/util/ArrayList") (C := RX0) (T := TX0) (N := 4) hx hb hts in_X0 tyX0 tyX0_ok nmX0 hown hK hP hD hS 0 rfl rfl 3 (by decide) (hts _ q_28) (fun _ h9 => h9) rfl hin rfl (by decide +kernel) rfl rfl (Nat.le_of_ble_eq_true rfl) dX0_init_45 (fun H28 _ hP hD hS => ?_)
  have hP : va_P (dC, dI) xCl [(h0, .inr (2, [.ref a1, .ref a8, .ref a15, .ref a22])), (a1, .inr (0, [.int 0, .ref z.1, .int 0])), (a8, .inr (0, [.int 0, .ref z.1, .int 0])), (a15, .inr (0, [.int 0, .ref z.1, .int 0])), (a22, .inr (0, [.int 0, .ref z.1, .int 0]))] H28 := hP
  have hD : va_D A [(h0, .inr (2, [.ref a1, .ref a8, .ref a15, .ref a22])), (a1, .inr (0, [.int 0, .ref z.1, .int 0])), (a8, .inr (0, [.int 0, .ref z.1, .int 0])), (a15, .inr (0, [.int 0, .ref z.1, .int 0])), (a22, .inr (0, [.int 0, .ref z.1, .int 0]))] := hD
  exact W.vret hx hb hr (fun t9 ht9 hW9 => ⟨⟨(), rfl, trivial, ⟨a1, a8, a15, a22, pq_mk (wc := [(h0, .inr (2, [.ref a1, .ref a8, .ref a15, .ref a22])), (a1, .inr (0, [.int 0, .ref z.1, .int 0])), (a8, .inr (0, [.int 0, .ref z.1, .int 0])), (a15, .inr (0, [.int 0, .ref z.1, .int 0])), (a22, .inr (0, [.int 0, .ref z.1, .int 0]))]) (tc := []) hP hD hK [0, 1, 2, 3, 4] [] rfl rfl rfl rfl ht9 hW9⟩⟩, hS.F ht9⟩) hS.2.2 dX0_init_48

set_option maxHeartbeats 4000000 in
set_option maxRecDepth 100000 in
theorem k5_init (l : Launch) (hl9 : l.stackTraces = false) (dC : Nat → ClassId) (dI : Nat → Nat → Nat) (z : XZ) (h0 h1 h2 h3 h4 h5 : Nat) (sz : Nat) : Met l yX5_init (.code yX5_init cX5_init 2 none :: wsL_law) ({ frames := 1, cells := 0, slots := 0, locals := 16 }) (va_Pc [.ref h0, .ref h1] (PC (dC, dI) [(h0, .inr (5, [.null, .int 0])), (h1, .inr (2, [.ref h2, .ref h3, .ref h4, .ref h5])), (h2, .inr (0, [.int 0, .ref z.1, .int 0])), (h3, .inr (0, [.int 0, .ref z.1, .int 0])), (h4, .inr (0, [.int 0, .ref z.1, .int 0])), (h5, .inr (0, [.int 0, .ref z.1, .int 0]))] [] sz z)) (va_Qv (fun (_ : Unit) => True) (fun (_ : Unit) (t : State) => PQ (dC, dI) [(h0, .inr (5, [.ref h1, .int 0])), (h1, .inr (2, [.ref h2, .ref h3, .ref h4, .ref h5])), (h2, .inr (0, [.int 0, .ref z.1, .int 0])), (h3, .inr (0, [.int 0, .ref z.1, .int 0])), (h4, .inr (0, [.int 0, .ref z.1, .int 0])), (h5, .inr (0, [.int 0, .ref z.1, .int 0]))] [] (va_A [(h0, .inr (5, [.null, .int 0])), (h1, .inr (2, [.ref h2, .ref h3, .ref h4, .ref h5])), (h2, .inr (0, [.int 0, .ref z.1, .int 0])), (h3, .inr (0, [.int 0, .ref z.1, .int 0])), (h4, .inr (0, [.int 0, .ref z.1, .int 0])), (h5, .inr (0, [.int 0, .ref z.1, .int 0]))] sz) t) (va_A [(h0, .inr (5, [.null, .int 0])), (h1, .inr (2, [.ref h2, .ref h3, .ref h4, .ref h5])), (h2, .inr (0, [.int 0, .ref z.1, .int 0])), (h3, .inr (0, [.int 0, .ref z.1, .int 0])), (h4, .inr (0, [.int 0, .ref z.1, .int 0])), (h5, .inr (0, [.int 0, .ref z.1, .int 0]))] sz)) 0 0 (va_A [(h0, .inr (5, [.null, .int 0])), (h1, .inr (2, [.ref h2, .ref h3, .ref h4, .ref h5])), (h2, .inr (0, [.int 0, .ref z.1, .int 0])), (h3, .inr (0, [.int 0, .ref z.1, .int 0])), (h4, .inr (0, [.int 0, .ref z.1, .int 0])), (h5, .inr (0, [.int 0, .ref z.1, .int 0]))] sz) := by
  refine Met.ofW (cc := cX5_init) (maxL := 2) (ret := none) (by decide) rfl ?_
  intro p e s m args below meth c s₁ B hml hv
  obtain ⟨rfl, hsz, hP, hK, hD0, hX, hT⟩ := hv
  have hx := B.exec
  have hb := B.bytes
  have hr := B.returns
  have hts0 := atoms_spec (ws := .code yX5_init cX5_init 2 none :: wsL_law) B.pre
  have hts := xTail hts0
  have hown : s.vm.findClass RX5 = some m.cls := findClass_of_methodNamed B.named
  have hlocks := B.notSynchronized
  have hin : meth.name = "<init>" := (name_of_methodNamed B.named B.method).1
  subst hsz
  have hD := hD0.self (sz := s.heap.size)
  generalize hAe : va_A [(h0, .inr (5, [.null, .int 0])), (h1, .inr (2, [.ref h2, .ref h3, .ref h4, .ref h5])), (h2, .inr (0, [.int 0, .ref z.1, .int 0])), (h3, .inr (0, [.int 0, .ref z.1, .int 0])), (h4, .inr (0, [.int 0, .ref z.1, .int 0])), (h5, .inr (0, [.int 0, .ref z.1, .int 0]))] s.heap.size = A at hD hX ⊢
  have hA : ∀ q : Nat, s.heap.size ≤ q → A q := fun q h => by rw [← hAe]; exact Or.inr h
  have hS : va_S A s.heap s.heap [] := va_S.rf
  have hl := lv_entry ([.ref h0, .ref h1]) (n := 2) (Nat.le_of_ble_eq_true rfl)
  rw [lg_entry_eq]
  generalize (lg_sl ([.ref h0, .ref h1]) ++ List.replicate (2 - (lg_sl ([.ref h0, .ref h1])).length) Slot.unset).toArray = ls at hl ⊢
  have hl : lv_has ls 2 [(0, .ref h0), (1, .ref h1)] := hl
  refine lv_aload_n hx hb dX5_init_0 rfl (lv_at hl 0 rfl) ?_
  refine W.objInit hx hb hown (hts _ q_35) (hts _ q_1) (hts _ q_2) rfl (by rw [hml]; exact hl.1) rfl dX5_init_1 (Nat.le_of_ble_eq_true rfl) (Nat.le_of_ble_eq_true rfl) ?_
  refine W.eq (g2 := F0 m 4 ls []) rfl ?_
  refine lv_aload_n hx hb dX5_init_4 rfl (lv_at hl 0 rfl) ?_
  refine lv_aload_n hx hb dX5_init_5 rfl (lv_at hl 1 rfl) ?_
  refine va_putF (D := (dC, dI)) (ci := 5) (v := .ref h1) (ty := .object "Deltacycle$Circuit") (C := RX5) (T := TX5) (N := 2) hx hb hts in_X5 tyX5 tyX5_ok nmX5 hown hK hP hD hS 0 rfl rfl 0 (by decide) (hts _ q_36) (fun _ h9 => h9) rfl hin rfl (by decide +kernel) rfl rfl (Nat.le_of_ble_eq_true rfl) dX5_init_6 (fun H1 _ hP hD hS => ?_)
  have hP : va_P (dC, dI) xCl [(h0, .inr (5, [.ref h1, .int 0])), (h1, .inr (2, [.ref h2, .ref h3, .ref h4, .ref h5])), (h2, .inr (0, [.int 0, .ref z.1, .int 0])), (h3, .inr (0, [.int 0, .ref z.1, .int 0])), (h4, .inr (0, [.int 0, .ref z.1, .int 0])), (h5, .inr (0, [.int 0, .ref z.1, .int 0]))] H1 := hP
  have hD : va_D A [(h0, .inr (5, [.ref h1, .int 0])), (h1, .inr (2, [.ref h2, .ref h3, .ref h4, .ref h5])), (h2, .inr (0, [.int 0, .ref z.1, .int 0])), (h3, .inr (0, [.int 0, .ref z.1, .int 0])), (h4, .inr (0, [.int 0, .ref z.1, .int 0])), (h5, .inr (0, [.int 0, .ref z.1, .int 0]))] := hD
  exact W.vret hx hb hr (fun t9 ht9 hW9 => ⟨⟨(), rfl, trivial, pq_mk (wc := [(h0, .inr (5, [.ref h1, .int 0])), (h1, .inr (2, [.ref h2, .ref h3, .ref h4, .ref h5])), (h2, .inr (0, [.int 0, .ref z.1, .int 0])), (h3, .inr (0, [.int 0, .ref z.1, .int 0])), (h4, .inr (0, [.int 0, .ref z.1, .int 0])), (h5, .inr (0, [.int 0, .ref z.1, .int 0]))]) (tc := []) hP hD hK [0, 1, 2, 3, 4, 5] [] rfl rfl rfl rfl ht9 hW9⟩, hS.F ht9⟩) hS.2.2 dX5_init_9

set_option maxHeartbeats 4000000 in
set_option maxRecDepth 100000 in
theorem k6_init (l : Launch) (hl9 : l.stackTraces = false) (dC : Nat → ClassId) (dI : Nat → Nat → Nat) (z : XZ) (h0 h1 h2 h3 h4 h5 : Nat) (sz : Nat) : Met l yX4_init (.code yX4_init cX4_init 2 none :: wsL_law) ({ frames := 1, cells := 1, slots := 8, locals := 16 }) (va_Pc [.ref h0, .ref h1] (PC (dC, dI) [(h0, .inr (4, [.null, .null, .int 0])), (h1, .inr (2, [.ref h2, .ref h3, .ref h4, .ref h5])), (h2, .inr (0, [.int 0, .ref z.1, .int 0])), (h3, .inr (0, [.int 0, .ref z.1, .int 0])), (h4, .inr (0, [.int 0, .ref z.1, .int 0])), (h5, .inr (0, [.int 0, .ref z.1, .int 0]))] [] sz z)) (va_Qv (fun (_ : Unit) => True) (fun (_ : Unit) (t : State) => ∃ (n0 : Nat), ∃ (m0 : ClassId), PQ (dC, dI) [(h0, .inr (4, [.ref h1, .ref n0, .int 0])), (h1, .inr (2, [.ref h2, .ref h3, .ref h4, .ref h5])), (h2, .inr (0, [.int 0, .ref z.1, .int 0])), (h3, .inr (0, [.int 0, .ref z.1, .int 0])), (h4, .inr (0, [.int 0, .ref z.1, .int 0])), (h5, .inr (0, [.int 0, .ref z.1, .int 0])), (n0, .inl (m0, 8, .inl (fun _ => 0)))] [(m0, .int)] (va_A [(h0, .inr (4, [.null, .null, .int 0])), (h1, .inr (2, [.ref h2, .ref h3, .ref h4, .ref h5])), (h2, .inr (0, [.int 0, .ref z.1, .int 0])), (h3, .inr (0, [.int 0, .ref z.1, .int 0])), (h4, .inr (0, [.int 0, .ref z.1, .int 0])), (h5, .inr (0, [.int 0, .ref z.1, .int 0]))] sz) t) (va_A [(h0, .inr (4, [.null, .null, .int 0])), (h1, .inr (2, [.ref h2, .ref h3, .ref h4, .ref h5])), (h2, .inr (0, [.int 0, .ref z.1, .int 0])), (h3, .inr (0, [.int 0, .ref z.1, .int 0])), (h4, .inr (0, [.int 0, .ref z.1, .int 0])), (h5, .inr (0, [.int 0, .ref z.1, .int 0]))] sz)) 1 8 (va_A [(h0, .inr (4, [.null, .null, .int 0])), (h1, .inr (2, [.ref h2, .ref h3, .ref h4, .ref h5])), (h2, .inr (0, [.int 0, .ref z.1, .int 0])), (h3, .inr (0, [.int 0, .ref z.1, .int 0])), (h4, .inr (0, [.int 0, .ref z.1, .int 0])), (h5, .inr (0, [.int 0, .ref z.1, .int 0]))] sz) := by
  refine Met.ofW (cc := cX4_init) (maxL := 2) (ret := none) (by decide) rfl ?_
  intro p e s m args below meth c s₁ B hml hv
  obtain ⟨rfl, hsz, hP, hK, hD0, hX, hT⟩ := hv
  have hx := B.exec
  have hb := B.bytes
  have hr := B.returns
  have hts0 := atoms_spec (ws := .code yX4_init cX4_init 2 none :: wsL_law) B.pre
  have hts := xTail hts0
  have hown : s.vm.findClass RX4 = some m.cls := findClass_of_methodNamed B.named
  have hlocks := B.notSynchronized
  have hin : meth.name = "<init>" := (name_of_methodNamed B.named B.method).1
  subst hsz
  have hD := hD0.self (sz := s.heap.size)
  generalize hAe : va_A [(h0, .inr (4, [.null, .null, .int 0])), (h1, .inr (2, [.ref h2, .ref h3, .ref h4, .ref h5])), (h2, .inr (0, [.int 0, .ref z.1, .int 0])), (h3, .inr (0, [.int 0, .ref z.1, .int 0])), (h4, .inr (0, [.int 0, .ref z.1, .int 0])), (h5, .inr (0, [.int 0, .ref z.1, .int 0]))] s.heap.size = A at hD hX ⊢
  have hA : ∀ q : Nat, s.heap.size ≤ q → A q := fun q h => by rw [← hAe]; exact Or.inr h
  have hS : va_S A s.heap s.heap [] := va_S.rf
  have hl := lv_entry ([.ref h0, .ref h1]) (n := 2) (Nat.le_of_ble_eq_true rfl)
  rw [lg_entry_eq]
  generalize (lg_sl ([.ref h0, .ref h1]) ++ List.replicate (2 - (lg_sl ([.ref h0, .ref h1])).length) Slot.unset).toArray = ls at hl ⊢
  have hl : lv_has ls 2 [(0, .ref h0), (1, .ref h1)] := hl
  refine lv_aload_n hx hb dX4_init_0 rfl (lv_at hl 0 rfl) ?_
  refine W.objInit hx hb hown (hts _ q_44) (hts _ q_1) (hts _ q_2) rfl (by rw [hml]; exact hl.1) rfl dX4_init_1 (Nat.le_of_ble_eq_true rfl) (Nat.le_of_ble_eq_true rfl) ?_
  refine W.eq (g2 := F0 m 4 ls []) rfl ?_
  refine lv_aload_n hx hb dX4_init_4 rfl (lv_at hl 0 rfl) ?_
  refine lv_bipush (v := 8) hx hb dX4_init_5 (by decide) ?_
  refine va_newa (atype := .int) hx hb (hts _ q_45) rfl hK hP hD hS hA (n := 8) (N' := 8) (a0 := (8, .inl (fun _ => 0))) (fun _ => rfl) (by decide) (by decide) (Nat.le_of_ble_eq_true rfl) (Nat.le_of_ble_eq_true rfl) (Nat.le_of_ble_eq_true rfl) dX4_init_7 (fun a1 k2 H3 hK hP hD hS => ?_)
  have hK : va_K (dC, dI) xCl [(k2, .int)] s := hK
  have hP : va_P (dC, dI) xCl [(h0, .inr (4, [.null, .null, .int 0])), (h1, .inr (2, [.ref h2, .ref h3, .ref h4, .ref h5])), (h2, .inr (0, [.int 0, .ref z.1, .int 0])), (h3, .inr (0, [.int 0, .ref z.1, .int 0])), (h4, .inr (0, [.int 0, .ref z.1, .int 0])), (h5, .inr (0, [.int 0, .ref z.1, .int 0])), (a1, .inl (k2, 8, .inl (fun _ => 0)))] H3 := hP
  have hD : va_D A [(h0, .inr (4, [.null, .null, .int 0])), (h1, .inr (2, [.ref h2, .ref h3, .ref h4, .ref h5])), (h2, .inr (0, [.int 0, .ref z.1, .int 0])), (h3, .inr (0, [.int 0, .ref z.1, .int 0])), (h4, .inr (0, [.int 0, .ref z.1, .int 0])), (h5, .inr (0, [.int 0, .ref z.1, .int 0])), (a1, .inl (k2, 8, .inl (fun _ => 0)))] := hD
  refine W.widen (k := 1) (n := 8) (by decide) (by decide) ?_
  refine va_putF (D := (dC, dI)) (ci := 4) (v := .ref a1) (ty := .array .int) (C := RX4) (T := TX4) (N := 3) hx hb hts in_X4 tyX4 tyX4_ok nmX4 hown hK hP hD hS 0 rfl rfl 1 (by decide) (hts _ q_46) (fun _ h9 => h9) rfl hin rfl (by decide +kernel) rfl rfl (Nat.le_of_ble_eq_true rfl) dX4_init_9 (fun H4 _ hP hD hS => ?_)
  have hP : va_P (dC, dI) xCl [(h0, .inr (4, [.null, .ref a1, .int 0])), (h1, .inr (2, [.ref h2, .ref h3, .ref h4, .ref h5])), (h2, .inr (0, [.int 0, .ref z.1, .int 0])), (h3, .inr (0, [.int 0, .ref z.1, .int 0])), (h4, .inr (0, [.int 0, .ref z.1, .int 0])), (h5, .inr (0, [.int 0, .ref z.1, .int 0])), (a1, .inl (k2, 8, .inl (fun _ => 0)))] H4 := hP
  have hD : va_D A [(h0, .inr (4, [.null, .ref a1, .int 0])), (h1, .inr (2, [.ref h2, .ref h3, .ref h4, .ref h5])), (h2, .inr (0, [.int 0, .ref z.1, .int 0])), (h3, .inr (0, [.int 0, .ref z.1, .int 0])), (h4, .inr (0, [.int 0, .ref z.1, .int 0])), (h5, .inr (0, [.int 0, .ref z.1, .int 0])), (a1, .inl (k2, 8, .inl (fun _ => 0)))] := hD
  refine lv_aload_n hx hb dX4_init_12 rfl (lv_at hl 0 rfl) ?_
  refine lv_aload_n hx hb dX4_init_13 rfl (lv_at hl 1 rfl) ?_
  refine va_putF (D := (dC, dI)) (ci := 4) (v := .ref h1) (ty := .object "Deltacycle$Circuit") (C := RX4) (T := TX4) (N := 3) hx hb hts in_X4 tyX4 tyX4_ok nmX4 hown hK hP hD hS 0 rfl rfl 0 (by decide) (hts _ q_47) (fun _ h9 => h9) rfl hin rfl (by decide +kernel) rfl rfl (Nat.le_of_ble_eq_true rfl) dX4_init_14 (fun H5 _ hP hD hS => ?_)
  have hP : va_P (dC, dI) xCl [(h0, .inr (4, [.ref h1, .ref a1, .int 0])), (h1, .inr (2, [.ref h2, .ref h3, .ref h4, .ref h5])), (h2, .inr (0, [.int 0, .ref z.1, .int 0])), (h3, .inr (0, [.int 0, .ref z.1, .int 0])), (h4, .inr (0, [.int 0, .ref z.1, .int 0])), (h5, .inr (0, [.int 0, .ref z.1, .int 0])), (a1, .inl (k2, 8, .inl (fun _ => 0)))] H5 := hP
  have hD : va_D A [(h0, .inr (4, [.ref h1, .ref a1, .int 0])), (h1, .inr (2, [.ref h2, .ref h3, .ref h4, .ref h5])), (h2, .inr (0, [.int 0, .ref z.1, .int 0])), (h3, .inr (0, [.int 0, .ref z.1, .int 0])), (h4, .inr (0, [.int 0, .ref z.1, .int 0])), (h5, .inr (0, [.int 0, .ref z.1, .int 0])), (a1, .inl (k2, 8, .inl (fun _ => 0)))] := hD
  exact W.vret hx hb hr (fun t9 ht9 hW9 => ⟨⟨(), rfl, trivial, ⟨a1, k2, pq_mk (wc := [(h0, .inr (4, [.ref h1, .ref a1, .int 0])), (h1, .inr (2, [.ref h2, .ref h3, .ref h4, .ref h5])), (h2, .inr (0, [.int 0, .ref z.1, .int 0])), (h3, .inr (0, [.int 0, .ref z.1, .int 0])), (h4, .inr (0, [.int 0, .ref z.1, .int 0])), (h5, .inr (0, [.int 0, .ref z.1, .int 0])), (a1, .inl (k2, 8, .inl (fun _ => 0)))]) (tc := [(k2, .int)]) hP hD hK [0, 1, 2, 3, 4, 5, 6] [0] rfl rfl rfl rfl ht9 hW9⟩⟩, hS.F ht9⟩) hS.2.2 dX4_init_17

set_option maxHeartbeats 4000000 in
set_option maxRecDepth 100000 in
theorem k7_init (l : Launch) (hl9 : l.stackTraces = false) (dC : Nat → ClassId) (dI : Nat → Nat → Nat) (z : XZ) (h0 : Nat) (sz : Nat) : Met l yX6_init (.code yX6_init cX6_init 1 none :: wsL_law) ({ frames := 5, cells := 8, slots := 29, locals := 96 }) (va_Pc [.ref h0] (PC (dC, dI) [(h0, .inr (6, [.null, .null, .null]))] [] sz z)) (va_Qv (fun (_ : Unit) => True) (fun (_ : Unit) (t : State) => ∃ (n0 n1 n2 n3 n4 n5 n6 n7 : Nat), ∃ (m0 : ClassId), PQ (dC, dI) [(h0, .inr (6, [.ref n0, .ref n1, .ref n2])), (n0, .inr (2, [.ref n3, .ref n4, .ref n5, .ref n6])), (n1, .inr (5, [.ref n0, .int 0])), (n2, .inr (4, [.ref n0, .ref n7, .int 0])), (n3, .inr (0, [.int 0, .ref z.1, .int 0])), (n4, .inr (0, [.int 0, .ref z.1, .int 0])), (n5, .inr (0, [.int 0, .ref z.1, .int 0])), (n6, .inr (0, [.int 0, .ref z.1, .int 0])), (n7, .inl (m0, 8, .inl (fun _ => 0)))] [(m0, .int)] (va_A [(h0, .inr (6, [.null, .null, .null]))] sz) t) (va_A [(h0, .inr (6, [.null, .null, .null]))] sz)) 8 29 (va_A [(h0, .inr (6, [.null, .null, .null]))] sz) := by
  refine Met.ofW (cc := cX6_init) (maxL := 1) (ret := none) (by decide) rfl ?_
  intro p e s m args below meth c s₁ B hml hv
  obtain ⟨rfl, hsz, hP, hK, hD0, hX, hT⟩ := hv
  have hx := B.exec
  have hb := B.bytes
  have hr := B.returns
  have hts0 := atoms_spec (ws := .code yX6_init cX6_init 1 none :: wsL_law) B.pre
  have hts := xTail hts0
  have hown : s.vm.findClass RX6 = some m.cls := findClass_of_methodNamed B.named
  have hlocks := B.notSynchronized
  have hin : meth.name = "<init>" := (name_of_methodNamed B.named B.method).1
  subst hsz
  have hD := hD0.self (sz := s.heap.size)
  generalize hAe : va_A [(h0, .inr (6, [.null, .null, .null]))] s.heap.size = A at hD hX ⊢
  have hA : ∀ q : Nat, s.heap.size ≤ q → A q := fun q h => by rw [← hAe]; exact Or.inr h
  have hS : va_S A s.heap s.heap [] := va_S.rf
  have hl := lv_entry ([.ref h0]) (n := 1) (Nat.le_of_ble_eq_true rfl)
  rw [lg_entry_eq]
  generalize (lg_sl ([.ref h0]) ++ List.replicate (1 - (lg_sl ([.ref h0])).length) Slot.unset).toArray = ls at hl ⊢
  have hl : lv_has ls 1 [(0, .ref h0)] := hl
  refine lv_aload_n hx hb dX6_init_0 rfl (lv_at hl 0 rfl) ?_
  refine W.objInit hx hb hown (hts _ q_0) (hts _ q_1) (hts _ q_2) rfl (by rw [hml]; exact hl.1) rfl dX6_init_1 (Nat.le_of_ble_eq_true rfl) (Nat.le_of_ble_eq_true rfl) ?_
  refine W.eq (g2 := F0 m 4 ls []) rfl ?_
  refine lv_aload_n hx hb dX6_init_4 rfl (lv_at hl 0 rfl) ?_
  refine va_new (ci := 2) (fs := [.null, .null, .null, .null]) (C := RX0) (T := TX0) (N := 4) hx hb hts in_X0 tyX0 tyX0_ok hown (hts _ q_3) (hts _ q_4) (hts _ q_5) hK hP hD hS hA rfl nf_X0 (Nat.le_of_ble_eq_true rfl) (Nat.le_of_ble_eq_true rfl) dX6_init_5 (fun a1 H2 hP hD hS => ?_)
  have hP : va_P (dC, dI) xCl [(h0, .inr (6, [.null, .null, .null])), (a1, .inr (2, [.null, .null, .null, .null]))] H2 := hP
  have hD : va_D A [(h0, .inr (6, [.null, .null, .null])), (a1, .inr (2, [.null, .null, .null, .null]))] := hD
  refine W.widen (k := 1) (n := 4) (by decide) (by decide) ?_
  refine lv_dup hx hb dX6_init_8 rfl ?_
  have hF3 := va_free (wc := [(a1, .inr (2, [.null, .null, .null, .null]))]) hD hS hA [1] rfl
  refine va_callv (va_runIN (As := []) (rest := [.ref a1, .ref h0]) ⟨hx, hb, hml, hown, hts⟩ (k4_init l hl9 dC dI z a1 H2.size) ⟨va_cnB 0 hts (gIL q_29) rfl rfl rfl hT.2.2.2.2.2.1 (hts _ q_5) (by decide +kernel) ⟨Nat.le_of_ble_eq_true rfl, Nat.le_of_ble_eq_true rfl⟩, rfl, (hts _ q_30)⟩ ⟨pc_blind, fun U hU hW => ⟨rfl, pc_mk hP hD hK hS hX hT [1] [] rfl rfl rfl rfl hF3 hU hW⟩⟩ rfl rfl hl.1 rfl (lv_room (Nat.le_of_ble_eq_true rfl)) dX6_init_9 ⟨(Nat.le_of_ble_eq_true rfl), (Nat.le_of_ble_eq_true rfl)⟩) hS (fun q9 _ h9 => hF3 q9 h9) hF3 (fun u5 t5 H5 L5 ht5 hvm5 hw5 hB5 hz5 hk5 hS => ?_)
  obtain ⟨a7, a8, a9, a10, hB5⟩ := hB5
  obtain ⟨hP, hD, hK⟩ := pq_join (wr := [(h0, .inr (6, [.null, .null, .null]))]) (tr := []) (wz := [(h0, .inr (6, [.null, .null, .null])), (a1, .inr (2, [.ref a7, .ref a8, .ref a9, .ref a10])), (a7, .inr (0, [.int 0, .ref z.1, .int 0])), (a8, .inr (0, [.int 0, .ref z.1, .int 0])), (a9, .inr (0, [.int 0, .ref z.1, .int 0])), (a10, .inr (0, [.int 0, .ref z.1, .int 0]))]) (tz := []) hP hD hK [1] [0] [] rfl rfl (by decide) (by decide) rfl hk5 hF3 hB5 ht5 hvm5 rfl rfl
  refine W.widen (k := 5) (n := 16) (by decide) (by decide) ?_
  refine va_putF (D := (dC, dI)) (ci := 6) (v := .ref a1) (ty := .object "Deltacycle$Circuit") (C := RX6) (T := TX6) (N := 3) hx hb hts in_X6 tyX6 tyX6_ok nmX6 hown hK hP hD hS 0 rfl rfl 0 (by decide) (hts _ q_31) (fun _ h9 => h9) rfl hin rfl (by decide +kernel) rfl rfl (Nat.le_of_ble_eq_true rfl) dX6_init_12 (fun H11 _ hP hD hS => ?_)
  have hP : va_P (dC, dI) xCl [(h0, .inr (6, [.ref a1, .null, .null])), (a1, .inr (2, [.ref a7, .ref a8, .ref a9, .ref a10])), (a7, .inr (0, [.int 0, .ref z.1, .int 0])), (a8, .inr (0, [.int 0, .ref z.1, .int 0])), (a9, .inr (0, [.int 0, .ref z.1, .int 0])), (a10, .inr (0, [.int 0, .ref z.1, .int 0]))] H11 := hP
  have hD : va_D A [(h0, .inr (6, [.ref a1, .null, .null])), (a1, .inr (2, [.ref a7, .ref a8, .ref a9, .ref a10])), (a7, .inr (0, [.int 0, .ref z.1, .int 0])), (a8, .inr (0, [.int 0, .ref z.1, .int 0])), (a9, .inr (0, [.int 0, .ref z.1, .int 0])), (a10, .inr (0, [.int 0, .ref z.1, .int 0]))] := hD
  refine lv_aload_n hx hb dX6_init_15 rfl (lv_at hl 0 rfl) ?_
  refine va_new (ci := 5) (fs := [.null, .int 0]) (C := RX5) (T := TX5) (N := 2) hx hb hts in_X5 tyX5 tyX5_ok hown (hts _ q_32) (hts _ q_33) (hts _ q_34) hK hP hD hS hA rfl nf_X5 (Nat.le_of_ble_eq_true rfl) (Nat.le_of_ble_eq_true rfl) dX6_init_16 (fun a12 H13 hP hD hS => ?_)
  have hP : va_P (dC, dI) xCl [(h0, .inr (6, [.ref a1, .null, .null])), (a1, .inr (2, [.ref a7, .ref a8, .ref a9, .ref a10])), (a7, .inr (0, [.int 0, .ref z.1, .int 0])), (a8, .inr (0, [.int 0, .ref z.1, .int 0])), (a9, .inr (0, [.int 0, .ref z.1, .int 0])), (a10, .inr (0, [.int 0, .ref z.1, .int 0])), (a12, .inr (5, [.null, .int 0]))] H13 := hP
  have hD : va_D A [(h0, .inr (6, [.ref a1, .null, .null])), (a1, .inr (2, [.ref a7, .ref a8, .ref a9, .ref a10])), (a7, .inr (0, [.int 0, .ref z.1, .int 0])), (a8, .inr (0, [.int 0, .ref z.1, .int 0])), (a9, .inr (0, [.int 0, .ref z.1, .int 0])), (a10, .inr (0, [.int 0, .ref z.1, .int 0])), (a12, .inr (5, [.null, .int 0]))] := hD
  refine W.widen (k := 6) (n := 18) (by decide) (by decide) ?_
  refine lv_dup hx hb dX6_init_19 rfl ?_
  refine lv_aload_n hx hb dX6_init_20 rfl (lv_at hl 0 rfl) ?_
  refine va_get (D := (dC, dI)) (ci := 6) (v := .ref a1) (C := RX6) (T := TX6) (N := 3) hx hb hts in_X6 hown hK hP 0 rfl rfl 0 (by decide) (hts _ q_31) (fun _ h9 => h9) rfl dX6_init_21 ?_
  have hF14 := va_free (wc := [(a12, .inr (5, [.null, .int 0])), (a1, .inr (2, [.ref a7, .ref a8, .ref a9, .ref a10])), (a7, .inr (0, [.int 0, .ref z.1, .int 0])), (a8, .inr (0, [.int 0, .ref z.1, .int 0])), (a9, .inr (0, [.int 0, .ref z.1, .int 0])), (a10, .inr (0, [.int 0, .ref z.1, .int 0]))]) hD hS hA [6, 1, 2, 3, 4, 5] rfl
  refine va_callv (va_runI (As := [.ref a1]) (rest := [.ref a12, .ref h0]) ⟨hx, hb, hml, hown, hts⟩ (k5_init l hl9 dC dI z a12 a1 a7 a8 a9 a10 H13.size) (cwI 1 hts (gIL q_37) rfl rfl rfl (hts _ q_34) (hts _ q_38) (hts _ q_39) rfl (by decide +kernel) ⟨Nat.le_of_ble_eq_true rfl, Nat.le_of_ble_eq_true rfl⟩) ⟨pc_blind, fun U hU hW => ⟨rfl, pc_mk hP hD hK hS hX hT [6, 1, 2, 3, 4, 5] [] rfl rfl rfl rfl hF14 hU hW⟩⟩ rfl rfl hl.1 rfl (lv_room (Nat.le_of_ble_eq_true rfl)) dX6_init_24 ⟨(Nat.le_of_ble_eq_true rfl), (Nat.le_of_ble_eq_true rfl)⟩) hS (fun q9 _ h9 => hF14 q9 h9) hF14 (fun u16 t16 H16 L16 ht16 hvm16 hw16 hB16 hz16 hk16 hS => ?_)
  obtain ⟨hP, hD, hK⟩ := pq_join (wr := [(h0, .inr (6, [.ref a1, .null, .null]))]) (tr := []) (wz := [(h0, .inr (6, [.ref a1, .null, .null])), (a12, .inr (5, [.ref a1, .int 0])), (a1, .inr (2, [.ref a7, .ref a8, .ref a9, .ref a10])), (a7, .inr (0, [.int 0, .ref z.1, .int 0])), (a8, .inr (0, [.int 0, .ref z.1, .int 0])), (a9, .inr (0, [.int 0, .ref z.1, .int 0])), (a10, .inr (0, [.int 0, .ref z.1, .int 0]))]) (tz := []) hP hD hK [6, 1, 2, 3, 4, 5] [0] [] rfl rfl (by decide) (by decide) rfl hk16 hF14 hB16 ht16 hvm16 rfl rfl
  refine va_putF (D := (dC, dI)) (ci := 6) (v := .ref a12) (ty := .object "Deltacycle$Simulation") (C := RX6) (T := TX6) (N := 3) hx hb hts in_X6 tyX6 tyX6_ok nmX6 hown hK hP hD hS 0 rfl rfl 1 (by decide) (hts _ q_40) (fun _ h9 => h9) rfl hin rfl (by decide +kernel) rfl rfl (Nat.le_of_ble_eq_true rfl) dX6_init_27 (fun H18 _ hP hD hS => ?_)
  have hP : va_P (dC, dI) xCl [(h0, .inr (6, [.ref a1, .ref a12, .null])), (a12, .inr (5, [.ref a1, .int 0])), (a1, .inr (2, [.ref a7, .ref a8, .ref a9, .ref a10])), (a7, .inr (0, [.int 0, .ref z.1, .int 0])), (a8, .inr (0, [.int 0, .ref z.1, .int 0])), (a9, .inr (0, [.int 0, .ref z.1, .int 0])), (a10, .inr (0, [.int 0, .ref z.1, .int 0]))] H18 := hP
  have hD : va_D A [(h0, .inr (6, [.ref a1, .ref a12, .null])), (a12, .inr (5, [.ref a1, .int 0])), (a1, .inr (2, [.ref a7, .ref a8, .ref a9, .ref a10])), (a7, .inr (0, [.int 0, .ref z.1, .int 0])), (a8, .inr (0, [.int 0, .ref z.1, .int 0])), (a9, .inr (0, [.int 0, .ref z.1, .int 0])), (a10, .inr (0, [.int 0, .ref z.1, .int 0]))] := hD
  refine lv_aload_n hx hb dX6_init_30 rfl (lv_at hl 0 rfl) ?_
  refine va_new (ci := 4) (fs := [.null, .null, .int 0]) (C := RX4) (T := TX4) (N := 3) hx hb hts in_X4 tyX4 tyX4_ok hown (hts _ q_41) (hts _ q_42) (hts _ q_43) hK hP hD hS hA rfl nf_X4 (Nat.le_of_ble_eq_true rfl) (Nat.le_of_ble_eq_true rfl) dX6_init_31 (fun a19 H20 hP hD hS => ?_)
  have hP : va_P (dC, dI) xCl [(h0, .inr (6, [.ref a1, .ref a12, .null])), (a12, .inr (5, [.ref a1, .int 0])), (a1, .inr (2, [.ref a7, .ref a8, .ref a9, .ref a10])), (a7, .inr (0, [.int 0, .ref z.1, .int 0])), (a8, .inr (0, [.int 0, .ref z.1, .int 0])), (a9, .inr (0, [.int 0, .ref z.1, .int 0])), (a10, .inr (0, [.int 0, .ref z.1, .int 0])), (a19, .inr (4, [.null, .null, .int 0]))] H20 := hP
  have hD : va_D A [(h0, .inr (6, [.ref a1, .ref a12, .null])), (a12, .inr (5, [.ref a1, .int 0])), (a1, .inr (2, [.ref a7, .ref a8, .ref a9, .ref a10])), (a7, .inr (0, [.int 0, .ref z.1, .int 0])), (a8, .inr (0, [.int 0, .ref z.1, .int 0])), (a9, .inr (0, [.int 0, .ref z.1, .int 0])), (a10, .inr (0, [.int 0, .ref z.1, .int 0])), (a19, .inr (4, [.null, .null, .int 0]))] := hD
  refine W.widen (k := 7) (n := 21) (by decide) (by decide) ?_
  refine lv_dup hx hb dX6_init_34 rfl ?_
  refine lv_aload_n hx hb dX6_init_35 rfl (lv_at hl 0 rfl) ?_
  refine va_get (D := (dC, dI)) (ci := 6) (v := .ref a1) (C := RX6) (T := TX6) (N := 3) hx hb hts in_X6 hown hK hP 0 rfl rfl 0 (by decide) (hts _ q_31) (fun _ h9 => h9) rfl dX6_init_36 ?_
  have hF21 := va_free (wc := [(a19, .inr (4, [.null, .null, .int 0])), (a1, .inr (2, [.ref a7, .ref a8, .ref a9, .ref a10])), (a7, .inr (0, [.int 0, .ref z.1, .int 0])), (a8, .inr (0, [.int 0, .ref z.1, .int 0])), (a9, .inr (0, [.int 0, .ref z.1, .int 0])), (a10, .inr (0, [.int 0, .ref z.1, .int 0]))]) hD hS hA [7, 2, 3, 4, 5, 6] rfl
  refine va_callv (va_runI (As := [.ref a1]) (rest := [.ref a19, .ref h0]) ⟨hx, hb, hml, hown, hts⟩ (k6_init l hl9 dC dI z a19 a1 a7 a8 a9 a10 H20.size) (cwI 1 hts (gIL q_48) rfl rfl rfl (hts _ q_43) (hts _ q_49) (hts _ q_50) rfl (by decide +kernel) ⟨Nat.le_of_ble_eq_true rfl, Nat.le_of_ble_eq_true rfl⟩) ⟨pc_blind, fun U hU hW => ⟨rfl, pc_mk hP hD hK hS hX hT [7, 2, 3, 4, 5, 6] [] rfl rfl rfl rfl hF21 hU hW⟩⟩ rfl rfl hl.1 rfl (lv_room (Nat.le_of_ble_eq_true rfl)) dX6_init_39 ⟨(Nat.le_of_ble_eq_true rfl), (Nat.le_of_ble_eq_true rfl)⟩) hS (fun q9 _ h9 => hF21 q9 h9) hF21 (fun u23 t23 H23 L23 ht23 hvm23 hw23 hB23 hz23 hk23 hS => ?_)
  obtain ⟨a25, k26, hB23⟩ := hB23
  obtain ⟨hP, hD, hK⟩ := pq_join (wr := [(h0, .inr (6, [.ref a1, .ref a12, .null])), (a12, .inr (5, [.ref a1, .int 0]))]) (tr := []) (wz := [(h0, .inr (6, [.ref a1, .ref a12, .null])), (a12, .inr (5, [.ref a1, .int 0])), (a19, .inr (4, [.ref a1, .ref a25, .int 0])), (a1, .inr (2, [.ref a7, .ref a8, .ref a9, .ref a10])), (a7, .inr (0, [.int 0, .ref z.1, .int 0])), (a8, .inr (0, [.int 0, .ref z.1, .int 0])), (a9, .inr (0, [.int 0, .ref z.1, .int 0])), (a10, .inr (0, [.int 0, .ref z.1, .int 0])), (a25, .inl (k26, 8, .inl (fun _ => 0)))]) (tz := [(k26, .int)]) hP hD hK [7, 2, 3, 4, 5, 6] [0, 1] [] rfl rfl (by decide) (by decide) rfl hk23 hF21 hB23 ht23 hvm23 rfl rfl
  refine W.widen (k := 8) (n := 29) (by decide) (by decide) ?_
  refine va_putF (D := (dC, dI)) (ci := 6) (v := .ref a19) (ty := .object "Deltacycle$Rows") (C := RX6) (T := TX6) (N := 3) hx hb hts in_X6 tyX6 tyX6_ok nmX6 hown hK hP hD hS 0 rfl rfl 2 (by decide) (hts _ q_51) (fun _ h9 => h9) rfl hin rfl (by decide +kernel) rfl rfl (Nat.le_of_ble_eq_true rfl) dX6_init_42 (fun H27 _ hP hD hS => ?_)
  have hP : va_P (dC, dI) xCl [(h0, .inr (6, [.ref a1, .ref a12, .ref a19])), (a12, .inr (5, [.ref a1, .int 0])), (a19, .inr (4, [.ref a1, .ref a25, .int 0])), (a1, .inr (2, [.ref a7, .ref a8, .ref a9, .ref a10])), (a7, .inr (0, [.int 0, .ref z.1, .int 0])), (a8, .inr (0, [.int 0, .ref z.1, .int 0])), (a9, .inr (0, [.int 0, .ref z.1, .int 0])), (a10, .inr (0, [.int 0, .ref z.1, .int 0])), (a25, .inl (k26, 8, .inl (fun _ => 0)))] H27 := hP
  have hD : va_D A [(h0, .inr (6, [.ref a1, .ref a12, .ref a19])), (a12, .inr (5, [.ref a1, .int 0])), (a19, .inr (4, [.ref a1, .ref a25, .int 0])), (a1, .inr (2, [.ref a7, .ref a8, .ref a9, .ref a10])), (a7, .inr (0, [.int 0, .ref z.1, .int 0])), (a8, .inr (0, [.int 0, .ref z.1, .int 0])), (a9, .inr (0, [.int 0, .ref z.1, .int 0])), (a10, .inr (0, [.int 0, .ref z.1, .int 0])), (a25, .inl (k26, 8, .inl (fun _ => 0)))] := hD
  exact W.vret hx hb hr (fun t9 ht9 hW9 => ⟨⟨(), rfl, trivial, ⟨a1, a12, a19, a7, a8, a9, a10, a25, k26, pq_mk (wc := [(h0, .inr (6, [.ref a1, .ref a12, .ref a19])), (a1, .inr (2, [.ref a7, .ref a8, .ref a9, .ref a10])), (a12, .inr (5, [.ref a1, .int 0])), (a19, .inr (4, [.ref a1, .ref a25, .int 0])), (a7, .inr (0, [.int 0, .ref z.1, .int 0])), (a8, .inr (0, [.int 0, .ref z.1, .int 0])), (a9, .inr (0, [.int 0, .ref z.1, .int 0])), (a10, .inr (0, [.int 0, .ref z.1, .int 0])), (a25, .inl (k26, 8, .inl (fun _ => 0)))]) (tc := [(k26, .int)]) hP hD hK [0, 3, 1, 2, 4, 5, 6, 7, 8] [0] rfl rfl rfl rfl ht9 hW9⟩⟩, hS.F ht9⟩) hS.2.2 dX6_init_45
