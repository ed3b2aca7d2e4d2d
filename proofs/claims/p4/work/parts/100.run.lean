set_option maxHeartbeats 4000000 in
set_option maxRecDepth 100000 in
theorem k1_init (l : Launch) (hl9 : l.stackTraces = false) (dC : Nat → ClassId) (dI : Nat → Nat → Nat) (z : XZ) (o0 : Nat) (sz : Nat) : Met l yJxa1e45_init_da8c8 (.code yJxa1e45_init_da8c8 cJxa1e45_init_da8c8 1 none :: wsL_law) ({ frames := 1, cells := 0, slots := 0, locals := 16 }) (va_Pc [.ref o0] (PC (dC, dI) [] [] sz z)) (va_Qv (fun (_ : Unit) => True) (fun (_ : Unit) (t : State) => PG (dC, dI) [] [] (va_A [] sz) sz 0 t) (va_A [] sz)) 0 0 (va_A [] sz) := by
  refine Met.ofW (cc := cJxa1e45_init_da8c8) (maxL := 1) (ret := none) (by decide) rfl ?_
  intro p e s m args below meth c s₁ B hml hv
  obtain ⟨rfl, hsz, hP, hK, hD0, hX, hT⟩ := hv
  have hx := B.exec
  have hb := B.bytes
  have hr := B.returns
  have hts0 := atoms_spec (ws := .code yJxa1e45_init_da8c8 cJxa1e45_init_da8c8 1 none :: wsL_law) B.pre
  have hts := xTail hts0
  have hown : s.vm.findClass RJxa1e45 = some m.cls := findClass_of_methodNamed B.named
  have hlocks := B.notSynchronized
  have hin : meth.name = "<init>" := (name_of_methodNamed B.named B.method).1
  subst hsz
  have hD := hD0.self (sz := s.heap.size)
  generalize hAe : va_A [] s.heap.size = A at hD hX ⊢
  have hA : ∀ q : Nat, s.heap.size ≤ q → A q := fun q h => by rw [← hAe]; exact Or.inr h
  have hS : va_S A s.heap s.heap [] := va_S.rf
  have hG : s.heap.size + 0 ≤ s.heap.size := Nat.le_refl _
  have hl := lv_entry ([.ref o0]) (n := 1) (Nat.le_of_ble_eq_true rfl)
  rw [lg_entry_eq]
  generalize (lg_sl ([.ref o0]) ++ List.replicate (1 - (lg_sl ([.ref o0])).length) Slot.unset).toArray = ls at hl ⊢
  have hl : lv_has ls 1 [(0, .ref o0)] := hl
  refine lv_aload_n hx hb dJxa1e45_init_da8c8_0 rfl (lv_at hl 0 rfl) ?_
  refine W.objInit hx hb hown (hts _ q_13) (hts _ q_4) (hts _ q_5) rfl (by rw [hml]; exact hl.1) rfl dJxa1e45_init_da8c8_1 (Nat.le_of_ble_eq_true rfl) (Nat.le_of_ble_eq_true rfl) ?_
  refine W.eq (g2 := F0 m 4 ls []) rfl ?_
  exact W.vret hx hb hr (fun t9 ht9 hW9 => ⟨⟨(), rfl, trivial, ⟨pq_mk (wc := []) (tc := []) hP hD hK [] [] rfl rfl rfl rfl ht9 hW9, by rw [ht9]; exact Nat.le_trans (Nat.add_le_add_left (Nat.le_of_ble_eq_true rfl) _) hG⟩⟩, hS.F ht9⟩) hS.2.2 dJxa1e45_init_da8c8_4

set_option maxHeartbeats 4000000 in
set_option maxRecDepth 100000 in
theorem k2_init (l : Launch) (hl9 : l.stackTraces = false) (dC : Nat → ClassId) (dI : Nat → Nat → Nat) (z : XZ) (h0 : Nat) (sz : Nat) : Met l yJxc12de_init_da8c8 (.code yJxc12de_init_da8c8 cJxc12de_init_da8c8 1 none :: wsL_law) ({ frames := 2, cells := 0, slots := 0, locals := 36 }) (va_Pc [.ref h0] (PC (dC, dI) [(h0, .inr (0, [.int 0, .null, .int 0]))] [] sz z)) (va_Qv (fun (_ : Unit) => True) (fun (_ : Unit) (t : State) => PG (dC, dI) [(h0, .inr (0, [.int 0, .null, .int 0]))] [] (va_A [(h0, .inr (0, [.int 0, .null, .int 0]))] sz) sz 0 t) (va_A [(h0, .inr (0, [.int 0, .null, .int 0]))] sz)) 0 0 (va_A [(h0, .inr (0, [.int 0, .null, .int 0]))] sz) := by
  refine Met.ofW (cc := cJxc12de_init_da8c8) (maxL := 1) (ret := none) (by decide) rfl ?_
  intro p e s m args below meth c s₁ B hml hv
  obtain ⟨rfl, hsz, hP, hK, hD0, hX, hT⟩ := hv
  have hx := B.exec
  have hb := B.bytes
  have hr := B.returns
  have hts0 := atoms_spec (ws := .code yJxc12de_init_da8c8 cJxc12de_init_da8c8 1 none :: wsL_law) B.pre
  have hts := xTail hts0
  have hown : s.vm.findClass RJxc12de = some m.cls := findClass_of_methodNamed B.named
  have hlocks := B.notSynchronized
  have hin : meth.name = "<init>" := (name_of_methodNamed B.named B.method).1
  subst hsz
  have hD := hD0.self (sz := s.heap.size)
  generalize hAe : va_A [(h0, .inr (0, [.int 0, .null, .int 0]))] s.heap.size = A at hD hX ⊢
  have hA : ∀ q : Nat, s.heap.size ≤ q → A q := fun q h => by rw [← hAe]; exact Or.inr h
  have hS : va_S A s.heap s.heap [] := va_S.rf
  have hG : s.heap.size + 0 ≤ s.heap.size := Nat.le_refl _
  have hl := lv_entry ([.ref h0]) (n := 1) (Nat.le_of_ble_eq_true rfl)
  rw [lg_entry_eq]
  generalize (lg_sl ([.ref h0]) ++ List.replicate (1 - (lg_sl ([.ref h0])).length) Slot.unset).toArray = ls at hl ⊢
  have hl : lv_has ls 1 [(0, .ref h0)] := hl
  refine lv_aload_n hx hb dJxc12de_init_da8c8_0 rfl (lv_at hl 0 rfl) ?_
  have hF1 := va_free (wc := []) hD hS hA [] rfl
  refine va_callv (va_runI (As := []) (rest := []) ⟨hx, hb, hml, hown, hts⟩ (k1_init l hl9 dC dI z h0 s.heap.size) (cwI 0 hts (gIL q_14) rfl rfl rfl (hts _ q_15) (hts _ q_16) (hts _ q_17) rfl (by decide +kernel) ⟨Nat.le_of_ble_eq_true rfl, Nat.le_of_ble_eq_true rfl⟩) ⟨pc_blind, fun U hU hW => ⟨rfl, pc_mk hP hD hK hS hX hT [] [] rfl rfl rfl rfl hF1 hU hW⟩⟩ rfl rfl hl.1 rfl (lv_room (Nat.le_of_ble_eq_true rfl)) dJxc12de_init_da8c8_1 ⟨(Nat.le_of_ble_eq_true rfl), (Nat.le_of_ble_eq_true rfl)⟩) hS (fun q9 _ h9 => hF1 q9 h9) hF1 (fun u3 t3 H3 L3 ht3 hvm3 hw3 hB3 hz3 hk3 hS => ?_)
  obtain ⟨hP, hD, hK⟩ := pq_join (wr := [(h0, .inr (0, [.int 0, .null, .int 0]))]) (tr := []) (wz := [(h0, .inr (0, [.int 0, .null, .int 0]))]) (tz := []) hP hD hK [] [0] [] rfl rfl (by decide) (by decide) rfl hk3 hF1 hB3.1 ht3 hvm3 rfl rfl
  have hG : s.heap.size + 0 ≤ H3.size := Nat.le_trans hG hz3
  refine lv_aload_n hx hb dJxc12de_init_da8c8_4 rfl (lv_at hl 0 rfl) ?_
  refine lv_iconst (v := 0) hx hb dJxc12de_init_da8c8_5 (by decide) ?_
  refine va_put (D := (dC, dI)) (ci := 0) (v := .int 0) (ty := .int) (C := RJx4a65c) (T := TJx4a65c) (N := 3) hx hb hts in_Jx4a65c tyJx4a65c tyJx4a65c_ok nmJx4a65c hown hK hP hD (va_Sre hS) 0 rfl rfl 0 (by decide) (hts _ q_18) (fun _ h9 => h9) rfl (by decide +kernel) rfl rfl (Nat.le_of_ble_eq_true rfl) dJxc12de_init_da8c8_6 (fun H5 _ hP hD hS' => ?_)
  have hG : s.heap.size + 0 ≤ H5.size := Nat.le_trans hG hS'.1
  have hS := va_Str hS hS'
  have hP : va_P (dC, dI) xCl [(h0, .inr (0, [.int 0, .null, .int 0]))] H5 := hP
  have hD : va_D A [(h0, .inr (0, [.int 0, .null, .int 0]))] := hD
  exact W.vret hx hb hr (fun t9 ht9 hW9 => ⟨⟨(), rfl, trivial, ⟨pq_mk (wc := [(h0, .inr (0, [.int 0, .null, .int 0]))]) (tc := []) hP hD hK [0] [] rfl rfl rfl rfl ht9 hW9, by rw [ht9]; exact Nat.le_trans (Nat.add_le_add_left (Nat.le_of_ble_eq_true rfl) _) hG⟩⟩, hS.F ht9⟩) hS.2.2 dJxc12de_init_da8c8_9

set_option maxHeartbeats 4000000 in
set_option maxRecDepth 100000 in
theorem k3_init (l : Launch) (hl9 : l.stackTraces = false) (dC : Nat → ClassId) (dI : Nat → Nat → Nat) (z : XZ) (h0 : Nat) (sz : Nat) : Met l yJx4a65c_init_da8c8 (.code yJx4a65c_init_da8c8 cJx4a65c_init_da8c8 1 none :: wsL_law) ({ frames := 3, cells := 0, slots := 0, locals := 56 }) (va_Pc [.ref h0] (PC (dC, dI) [(h0, .inr (0, [.int 0, .null, .int 0]))] [] sz z)) (va_Qv (fun (_ : Unit) => True) (fun (_ : Unit) (t : State) => PG (dC, dI) [(h0, .inr (0, [.int 0, .ref z.1, .int 0]))] [] (va_A [(h0, .inr (0, [.int 0, .null, .int 0]))] sz) sz 0 t) (va_A [(h0, .inr (0, [.int 0, .null, .int 0]))] sz)) 0 0 (va_A [(h0, .inr (0, [.int 0, .null, .int 0]))] sz) := by
  refine Met.ofW (cc := cJx4a65c_init_da8c8) (maxL := 1) (ret := none) (by decide) rfl ?_
  intro p e s m args below meth c s₁ B hml hv
  obtain ⟨rfl, hsz, hP, hK, hD0, hX, hT⟩ := hv
  have hx := B.exec
  have hb := B.bytes
  have hr := B.returns
  have hts0 := atoms_spec (ws := .code yJx4a65c_init_da8c8 cJx4a65c_init_da8c8 1 none :: wsL_law) B.pre
  have hts := xTail hts0
  have hown : s.vm.findClass RJx4a65c = some m.cls := findClass_of_methodNamed B.named
  have hlocks := B.notSynchronized
  have hin : meth.name = "<init>" := (name_of_methodNamed B.named B.method).1
  subst hsz
  have hD := hD0.self (sz := s.heap.size)
  generalize hAe : va_A [(h0, .inr (0, [.int 0, .null, .int 0]))] s.heap.size = A at hD hX ⊢
  have hA : ∀ q : Nat, s.heap.size ≤ q → A q := fun q h => by rw [← hAe]; exact Or.inr h
  have hS : va_S A s.heap s.heap [] := va_S.rf
  have hG : s.heap.size + 0 ≤ s.heap.size := Nat.le_refl _
  have hl := lv_entry ([.ref h0]) (n := 1) (Nat.le_of_ble_eq_true rfl)
  rw [lg_entry_eq]
  generalize (lg_sl ([.ref h0]) ++ List.replicate (1 - (lg_sl ([.ref h0])).length) Slot.unset).toArray = ls at hl ⊢
  have hl : lv_has ls 1 [(0, .ref h0)] := hl
  refine lv_aload_n hx hb dJx4a65c_init_da8c8_0 rfl (lv_at hl 0 rfl) ?_
  have hF1 := va_free (wc := [(h0, .inr (0, [.int 0, .null, .int 0]))]) hD hS hA [0] rfl
  refine va_callv (va_runI (As := []) (rest := []) ⟨hx, hb, hml, hown, hts⟩ (k2_init l hl9 dC dI z h0 s.heap.size) (cwI 0 hts (gIL q_19) rfl rfl rfl (hts _ q_20) (hts _ q_21) (hts _ q_22) rfl (by decide +kernel) ⟨Nat.le_of_ble_eq_true rfl, Nat.le_of_ble_eq_true rfl⟩) ⟨pc_blind, fun U hU hW => ⟨rfl, pc_mk hP hD hK hS hX hT [0] [] rfl rfl rfl rfl hF1 hU hW⟩⟩ rfl rfl hl.1 rfl (lv_room (Nat.le_of_ble_eq_true rfl)) dJx4a65c_init_da8c8_1 ⟨(Nat.le_of_ble_eq_true rfl), (Nat.le_of_ble_eq_true rfl)⟩) hS (fun q9 _ h9 => hF1 q9 h9) hF1 (fun u3 t3 H3 L3 ht3 hvm3 hw3 hB3 hz3 hk3 hS => ?_)
  obtain ⟨hP, hD, hK⟩ := pq_join (wr := []) (tr := []) (wz := [(h0, .inr (0, [.int 0, .null, .int 0]))]) (tz := []) hP hD hK [0] [] [] rfl rfl (by decide) (by decide) rfl hk3 hF1 hB3.1 ht3 hvm3 rfl rfl
  have hG : s.heap.size + 0 ≤ H3.size := Nat.le_trans hG hz3
  refine lv_aload_n hx hb dJx4a65c_init_da8c8_4 rfl (lv_at hl 0 rfl) ?_
  refine va_gets (own := RJx4a65c) (ref := "java/util/ArrayList") hx hb hX.1.1 hS hown (hts _ q_23) (fun _ h9 => h9) dJx4a65c_init_da8c8_5 ?_
  refine va_put (D := (dC, dI)) (ci := 0) (v := .ref z.1) (ty := .array (.object "java/lang/Object")) (C := RJx4a65c) (T := TJx4a65c) (N := 3) hx hb hts in_Jx4a65c tyJx4a65c tyJx4a65c_ok nmJx4a65c hown hK hP hD (va_Sre hS) 0 rfl rfl 1 (by decide) (hts _ q_24) (fun _ h9 => h9) rfl (by decide +kernel) rfl rfl (Nat.le_of_ble_eq_true rfl) dJx4a65c_init_da8c8_8 (fun H5 _ hP hD hS' => ?_)
  have hG : s.heap.size + 0 ≤ H5.size := Nat.le_trans hG hS'.1
  have hS := va_Str hS hS'
  have hP : va_P (dC, dI) xCl [(h0, .inr (0, [.int 0, .ref z.1, .int 0]))] H5 := hP
  have hD : va_D A [(h0, .inr (0, [.int 0, .ref z.1, .int 0]))] := hD
  exact W.vret hx hb hr (fun t9 ht9 hW9 => ⟨⟨(), rfl, trivial, ⟨pq_mk (wc := [(h0, .inr (0, [.int 0, .ref z.1, .int 0]))]) (tc := []) hP hD hK [0] [] rfl rfl rfl rfl ht9 hW9, by rw [ht9]; exact Nat.le_trans (Nat.add_le_add_left (Nat.le_of_ble_eq_true rfl) _) hG⟩⟩, hS.F ht9⟩) hS.2.2 dJx4a65c_init_da8c8_11

set_option maxHeartbeats 4000000 in
set_option maxRecDepth 100000 in
theorem k4_init (l : Launch) (hl9 : l.stackTraces = false) (dC : Nat → ClassId) (dI : Nat → Nat → Nat) (z : XZ) (h0 : Nat) (sz : Nat) : Met l yX0_init (.code yX0_init cX0_init 1 none :: wsL_law) ({ frames := 4, cells := 4, slots := 12, locals := 76 }) (va_Pc [.ref h0] (PC (dC, dI) [(h0, .inr (2, [.null, .null, .null, .null]))] [] sz z)) (va_Qv (fun (_ : Unit) => True) (fun (_ : Unit) (t : State) => ∃ (n0 n1 n2 n3 : Nat), PG (dC, dI) [(h0, .inr (2, [.ref n0, .ref n1, .ref n2, .ref n3])), (n0, .inr (0, [.int 0, .ref z.1, .int 0])), (n1, .inr (0, [.int 0, .ref z.1, .int 0])), (n2, .inr (0, [.int 0, .ref z.1, .int 0])), (n3, .inr (0, [.int 0, .ref z.1, .int 0]))] [] (va_A [(h0, .inr (2, [.null, .null, .null, .null]))] sz) sz 4 t) (va_A [(h0, .inr (2, [.null, .null, .null, .null]))] sz)) 4 12 (va_A [(h0, .inr (2, [.null, .null, .null, .null]))] sz) := by
  refine Met.ofW (cc := cX0_init) (maxL := 1) (ret := none) (by decide) rfl ?_
  intro p e s m args below meth c s₁ B hml hv
  obtain ⟨rfl, hsz, hP, hK, hD0, hX, hT⟩ := hv
  have hx := B.exec
  have hb := B.bytes
  have hr := B.returns
  have hts0 := atoms_spec (ws := .code yX0_init cX0_init 1 none :: wsL_law) B.pre
  have hts := xTail hts0
  have hown : s.vm.findClass RX0 = some m.cls := findClass_of_methodNamed B.named
  have hlocks := B.notSynchronized
  have hin : meth.name = "<init>" := (name_of_methodNamed B.named B.method).1
  subst hsz
  have hD := hD0.self (sz := s.heap.size)
  generalize hAe : va_A [(h0, .inr (2, [.null, .null, .null, .null]))] s.heap.size = A at hD hX ⊢
  have hA : ∀ q : Nat, s.heap.size ≤ q → A q := fun q h => by rw [← hAe]; exact Or.inr h
  have hS : va_S A s.heap s.heap [] := va_S.rf
  have hG : s.heap.size + 0 ≤ s.heap.size := Nat.le_refl _
  have hl := lv_entry ([.ref h0]) (n := 1) (Nat.le_of_ble_eq_true rfl)
  rw [lg_entry_eq]
  generalize (lg_sl ([.ref h0]) ++ List.replicate (1 - (lg_sl ([.ref h0])).length) Slot.unset).toArray = ls at hl ⊢
  have hl : lv_has ls 1 [(0, .ref h0)] := hl
  refine lv_aload_n hx hb dX0_init_0 rfl (lv_at hl 0 rfl) ?_
  refine W.objInit hx hb hown (hts _ q_9) (hts _ q_4) (hts _ q_5) rfl (by rw [hml]; exact hl.1) rfl dX0_init_1 (Nat.le_of_ble_eq_true rfl) (Nat.le_of_ble_eq_true rfl) ?_
  refine W.eq (g2 := F0 m 4 ls []) rfl ?_
  refine lv_aload_n hx hb dX0_init_4 rfl (lv_at hl 0 rfl) ?_
  refine xa_new (ci := 0) (fs := [.int 0, .null, .int 0]) (C := RJx4a65c) (T := TJx4a65c) (N := 3) hx hb hts in_Jx4a65c tyJx4a65c tyJx4a65c_ok hown (hts _ q_10) (hts _ q_11) (hts _ q_12) hK hP hD hS hA rfl nf_Jx4a65c (Nat.le_of_ble_eq_true rfl) (Nat.le_of_ble_eq_true rfl) dX0_init_5 (fun a1 H2 hg8 hP hD hS => ?_)
  have hG : s.heap.size + 1 ≤ H2.size := by rw [hg8]; exact Nat.succ_le_succ hG
  have hP : va_P (dC, dI) xCl [(h0, .inr (2, [.null, .null, .null, .null])), (a1, .inr (0, [.int 0, .null, .int 0]))] H2 := hP
  have hD : va_D A [(h0, .inr (2, [.null, .null, .null, .null])), (a1, .inr (0, [.int 0, .null, .int 0]))] := hD
  refine W.widen (k := 1) (n := 3) (by decide) (by decide) ?_
  refine lv_dup hx hb dX0_init_8 rfl ?_
  have hF3 := va_free (wc := [(a1, .inr (0, [.int 0, .null, .int 0]))]) hD hS hA [1] rfl
  refine va_callv (va_runI (As := []) (rest := [.ref a1, .ref h0]) ⟨hx, hb, hml, hown, hts⟩ (k3_init l hl9 dC dI z a1 H2.size) (cwI 0 hts (gIL q_25) rfl rfl rfl (hts _ q_12) (hts _ q_26) (hts _ q_27) rfl (by decide +kernel) ⟨Nat.le_of_ble_eq_true rfl, Nat.le_of_ble_eq_true rfl⟩) ⟨pc_blind, fun U hU hW => ⟨rfl, pc_mk hP hD hK hS hX hT [1] [] rfl rfl rfl rfl hF3 hU hW⟩⟩ rfl rfl hl.1 rfl (lv_room (Nat.le_of_ble_eq_true rfl)) dX0_init_9 ⟨(Nat.le_of_ble_eq_true rfl), (Nat.le_of_ble_eq_true rfl)⟩) hS (fun q9 _ h9 => hF3 q9 h9) hF3 (fun u5 t5 H5 L5 ht5 hvm5 hw5 hB5 hz5 hk5 hS => ?_)
  obtain ⟨hP, hD, hK⟩ := pq_join (wr := [(h0, .inr (2, [.null, .null, .null, .null]))]) (tr := []) (wz := [(h0, .inr (2, [.null, .null, .null, .null])), (a1, .inr (0, [.int 0, .ref z.1, .int 0]))]) (tz := []) hP hD hK [1] [0] [] rfl rfl (by decide) (by decide) rfl hk5 hF3 hB5.1 ht5 hvm5 rfl rfl
  have hG : s.heap.size + 1 ≤ H5.size := Nat.le_trans hG hz5
  refine va_putF (D := (dC, dI)) (ci := 2) (v := .ref a1) (ty := .object "java/util/ArrayList") (C := RX0) (T := TX0) (N := 4) hx hb hts in_X0 tyX0 tyX0_ok nmX0 hown hK hP hD (va_Sre hS) 0 rfl rfl 0 (by decide) (hts _ q_28) (fun _ h9 => h9) rfl hin rfl (by decide +kernel) rfl rfl (Nat.le_of_ble_eq_true rfl) dX0_init_12 (fun H7 _ hP hD hS' => ?_)
  have hG : s.heap.size + 1 ≤ H7.size := Nat.le_trans hG hS'.1
  have hS := va_Str hS hS'
  have hP : va_P (dC, dI) xCl [(h0, .inr (2, [.ref a1, .null, .null, .null])), (a1, .inr (0, [.int 0, .ref z.1, .int 0]))] H7 := hP
  have hD : va_D A [(h0, .inr (2, [.ref a1, .null, .null, .null])), (a1, .inr (0, [.int 0, .ref z.1, .int 0]))] := hD
  refine lv_aload_n hx hb dX0_init_15 rfl (lv_at hl 0 rfl) ?_
  refine xa_new (ci := 0) (fs := [.int 0, .null, .int 0]) (C := RJx4a65c) (T := TJx4a65c) (N := 3) hx hb hts in_Jx4a65c tyJx4a65c tyJx4a65c_ok hown (hts _ q_10) (hts _ q_11) (hts _ q_12) hK hP hD hS hA rfl nf_Jx4a65c (Nat.le_of_ble_eq_true rfl) (Nat.le_of_ble_eq_true rfl) dX0_init_16 (fun a8 H9 hg8 hP hD hS => ?_)
  have hG : s.heap.size + 2 ≤ H9.size := by rw [hg8]; exact Nat.succ_le_succ hG
  have hP : va_P (dC, dI) xCl [(h0, .inr (2, [.ref a1, .null, .null, .null])), (a1, .inr (0, [.int 0, .ref z.1, .int 0])), (a8, .inr (0, [.int 0, .null, .int 0]))] H9 := hP
  have hD : va_D A [(h0, .inr (2, [.ref a1, .null, .null, .null])), (a1, .inr (0, [.int 0, .ref z.1, .int 0])), (a8, .inr (0, [.int 0, .null, .int 0]))] := hD
  refine W.widen (k := 2) (n := 6) (by decide) (by decide) ?_
  refine lv_dup hx hb dX0_init_19 rfl ?_
  have hF10 := va_free (wc := [(a8, .inr (0, [.int 0, .null, .int 0]))]) hD hS hA [2] rfl
  refine va_callv (va_runI (As := []) (rest := [.ref a8, .ref h0]) ⟨hx, hb, hml, hown, hts⟩ (k3_init l hl9 dC dI z a8 H9.size) (cwI 0 hts (gIL q_25) rfl rfl rfl (hts _ q_12) (hts _ q_26) (hts _ q_27) rfl (by decide +kernel) ⟨Nat.le_of_ble_eq_true rfl, Nat.le_of_ble_eq_true rfl⟩) ⟨pc_blind, fun U hU hW => ⟨rfl, pc_mk hP hD hK hS hX hT [2] [] rfl rfl rfl rfl hF10 hU hW⟩⟩ rfl rfl hl.1 rfl (lv_room (Nat.le_of_ble_eq_true rfl)) dX0_init_20 ⟨(Nat.le_of_ble_eq_true rfl), (Nat.le_of_ble_eq_true rfl)⟩) hS (fun q9 _ h9 => hF10 q9 h9) hF10 (fun u12 t12 H12 L12 ht12 hvm12 hw12 hB12 hz12 hk12 hS => ?_)
  obtain ⟨hP, hD, hK⟩ := pq_join (wr := [(h0, .inr (2, [.ref a1, .null, .null, .null])), (a1, .inr (0, [.int 0, .ref z.1, .int 0]))]) (tr := []) (wz := [(h0, .inr (2, [.ref a1, .null, .null, .null])), (a1, .inr (0, [.int 0, .ref z.1, .int 0])), (a8, .inr (0, [.int 0, .ref z.1, .int 0]))]) (tz := []) hP hD hK [2] [0, 1] [] rfl rfl (by decide) (by decide) rfl hk12 hF10 hB12.1 ht12 hvm12 rfl rfl
  have hG : s.heap.size + 2 ≤ H12.size := Nat.le_trans hG hz12
  refine va_putF (D := (dC, dI)) (ci := 2) (v := .ref a8) (ty := .object "java/util/ArrayList") (C := RX0) (T := TX0) (N := 4) hx hb hts in_X0 tyX0 tyX0_ok nmX0 hown hK hP hD (va_Sre hS) 0 rfl rfl 1 (by decide) (hts _ q_29) (fun _ h9 => h9) rfl hin rfl (by decide +kernel) rfl rfl (Nat.le_of_ble_eq_true rfl) dX0_init_23 (fun H14 _ hP hD hS' => ?_)
  have hG : s.heap.size + 2 ≤ H14.size := Nat.le_trans hG hS'.1
  have hS := va_Str hS hS'
  have hP : va_P (dC, dI) xCl [(h0, .inr (2, [.ref a1, .ref a8, .null, .null])), (a1, .inr (0, [.int 0, .ref z.1, .int 0])), (a8, .inr (0, [.int 0, .ref z.1, .int 0]))] H14 := hP
  have hD : va_D A [(h0, .inr (2, [.ref a1, .ref a8, .null, .null])), (a1, .inr (0, [.int 0, .ref z.1, .int 0])), (a8, .inr (0, [.int 0, .ref z.1, .int 0]))] := hD
  refine lv_aload_n hx hb dX0_init_26 rfl (lv_at hl 0 rfl) ?_
  refine xa_new (ci := 0) (fs := [.int 0, .null, .int 0]) (C := RJx4a65c) (T := TJx4a65c) (N := 3) hx hb hts in_Jx4a65c tyJx4a65c tyJx4a65c_ok hown (hts _ q_10) (hts _ q_11) (hts _ q_12) hK hP hD hS hA rfl nf_Jx4a65c (Nat.le_of_ble_eq_true rfl) (Nat.le_of_ble_eq_true rfl) dX0_init_27 (fun a15 H16 hg8 hP hD hS => ?_)
  have hG : s.heap.size + 3 ≤ H16.size := by rw [hg8]; exact Nat.succ_le_succ hG
  have hP : va_P (dC, dI) xCl [(h0, .inr (2, [.ref a1, .ref a8, .null, .null])), (a1, .inr (0, [.int 0, .ref z.1, .int 0])), (a8, .inr (0, [.int 0, .ref z.1, .int 0])), (a15, .inr (0, [.int 0, .null, .int 0]))] H16 := hP
  have hD : va_D A [(h0, .inr (2, [.ref a1, .ref a8, .null, .null])), (a1, .inr (0, [.int 0, .ref z.1, .int 0])), (a8, .inr (0, [.int 0, .ref z.1, .int 0])), (a15, .inr (0, [.int 0, .null, .int 0]))] := hD
  refine W.widen (k := 3) (n := 9) (by decide) (by decide) ?_
  refine lv_dup hx hb dX0_init_30 rfl ?_
  have hF17 := va_free (wc := [(a15, .inr (0, [.int 0, .null, .int 0]))]) hD hS hA [3] rfl
  refine va_callv (va_runI (As := []) (rest := [.ref a15, .ref h0]) ⟨hx, hb, hml, hown, hts⟩ (k3_init l hl9 dC dI z a15 H16.size) (cwI 0 hts (gIL q_25) rfl rfl rfl (hts _ q_12) (hts _ q_26) (hts _ q_27) rfl (by decide +kernel) ⟨Nat.le_of_ble_eq_true rfl, Nat.le_of_ble_eq_true rfl⟩) ⟨pc_blind, fun U hU hW => ⟨rfl, pc_mk hP hD hK hS hX hT [3] [] rfl rfl rfl rfl hF17 hU hW⟩⟩ rfl rfl hl.1 rfl (lv_room (Nat.le_of_ble_eq_true rfl)) dX0_init_31 ⟨(Nat.le_of_ble_eq_true rfl), (Nat.le_of_ble_eq_true rfl)⟩) hS (fun q9 _ h9 => hF17 q9 h9) hF17 (fun u19 t19 H19 L19 ht19 hvm19 hw19 hB19 hz19 hk19 hS => ?_)
  obtain ⟨hP, hD, hK⟩ := pq_join (wr := [(h0, .inr (2, [.ref a1, .ref a8, .null, .null])), (a1, .inr (0, [.int 0, .ref z.1, .int 0])), (a8, .inr (0, [.int 0, .ref z.1, .int 0]))]) (tr := []) (wz := [(h0, .inr (2, [.ref a1, .ref a8, .null, .null])), (a1, .inr (0, [.int 0, .ref z.1, .int 0])), (a8, .inr (0, [.int 0, .ref z.1, .int 0])), (a15, .inr (0, [.int 0, .ref z.1, .int 0]))]) (tz := []) hP hD hK [3] [0, 1, 2] [] rfl rfl (by decide) (by decide) rfl hk19 hF17 hB19.1 ht19 hvm19 rfl rfl
  have hG : s.heap.size + 3 ≤ H19.size := Nat.le_trans hG hz19
  refine va_putF (D := (dC, dI)) (ci := 2) (v := .ref a15) (ty := .object "java/util/ArrayList") (C := RX0) (T := TX0) (N := 4) hx hb hts in_X0 tyX0 tyX0_ok nmX0 hown hK hP hD (va_Sre hS) 0 rfl rfl 2 (by decide) (hts _ q_30) (fun _ h9 => h9) rfl hin rfl (by decide +kernel) rfl rfl (Nat.le_of_ble_eq_true rfl) dX0_init_34 (fun H21 _ hP hD hS' => ?_)
  have hG : s.heap.size + 3 ≤ H21.size := Nat.le_trans hG hS'.1
  have hS := va_Str hS hS'
  have hP : va_P (dC, dI) xCl [(h0, .inr (2, [.ref a1, .ref a8, .ref a15, .null])), (a1, .inr (0, [.int 0, .ref z.1, .int 0])), (a8, .inr (0, [.int 0, .ref z.1, .int 0])), (a15, .inr (0, [.int 0, .ref z.1, .int 0]))] H21 := hP
  have hD : va_D A [(h0, .inr (2, [.ref a1, .ref a8, .ref a15, .null])), (a1, .inr (0, [.int 0, .ref z.1, .int 0])), (a8, .inr (0, [.int 0, .ref z.1, .int 0])), (a15, .inr (0, [.int 0, .ref z.1, .int 0]))] := hD
  refine lv_aload_n hx hb dX0_init_37 rfl (lv_at hl 0 rfl) ?_
  refine xa_new (ci := 0) (fs := [.int 0, .null, .int 0]) (C := RJx4a65c) (T := TJx4a65c) (N := 3) hx hb hts in_Jx4a65c tyJx4a65c tyJx4a65c_ok hown (hts _ q_10) (hts _ q_11) (hts _ q_12) hK hP hD hS hA rfl nf_Jx4a65c (Nat.le_of_ble_eq_true rfl) (Nat.le_of_ble_eq_true rfl) dX0_init_38 (fun a22 H23 hg8 hP hD hS => ?_)
  have hG : s.heap.size + 4 ≤ H23.size := by rw [hg8]; exact Nat.succ_le_succ hG
  have hP : va_P (dC, dI) xCl [(h0, .inr (2, [.ref a1, .ref a8, .ref a15, .null])), (a1, .inr (0, [.int 0, .ref z.1, .int 0])), (a8, .inr (0, [.int 0, .ref z.1, .int 0])), (a15, .inr (0, [.int 0, .ref z.1, .int 0])), (a22, .inr (0, [.int 0, .null, .int 0]))] H23 := hP
  have hD : va_D A [(h0, .inr (2, [.ref a1, .ref a8, .ref a15, .null])), (a1, .inr (0, [.int 0, .ref z.1, .int 0])), (a8, .inr (0, [.int 0, .ref z.1, .int 0])), (a15, .inr (0, [.int 0, .ref z.1, .int 0])), (a22, .inr (0, [.int 0, .null, .int 0]))] := hD
  refine W.widen (k := 4) (n := 12) (by decide) (by decide) ?_
  refine lv_dup hx hb dX0_init_41 rfl ?_
  have hF24 := va_free (wc := [(a22, .inr (0, [.int 0, .null, .int 0]))]) hD hS hA [4] rfl
  refine va_callv (va_runI (As := []) (rest := [.ref a22, .ref h0]) ⟨hx, hb, hml, hown, hts⟩ (k3_init l hl9 dC dI z a22 H23.size) (cwI 0 hts (gIL q_25) rfl rfl rfl (hts _ q_12) (hts _ q_26) (hts _ q_27) rfl (by decide +kernel) ⟨Nat.le_of_ble_eq_true rfl, Nat.le_of_ble_eq_true rfl⟩) ⟨pc_blind, fun U hU hW => ⟨rfl, pc_mk hP hD hK hS hX hT [4] [] rfl rfl rfl rfl hF24 hU hW⟩⟩ rfl rfl hl.1 rfl (lv_room (Nat.le_of_ble_eq_true rfl)) dX0_init_42 ⟨(Nat.le_of_ble_eq_true rfl), (Nat.le_of_ble_eq_true rfl)⟩) hS (fun q9 _ h9 => hF24 q9 h9) hF24 (fun u26 t26 H26 L26 ht26 hvm26 hw26 hB26 hz26 hk26 hS => ?_)
  obtain ⟨hP, hD, hK⟩ := pq_join (wr := [(h0, .inr (2, [.ref a1, .ref a8, .ref a15, .null])), (a1, .inr (0, [.int 0, .ref z.1, .int 0])), (a8, .inr (0, [.int 0, .ref z.1, .int 0])), (a15, .inr (0, [.int 0, .ref z.1, .int 0]))]) (tr := []) (wz := [(h0, .inr (2, [.ref a1, .ref a8, .ref a15, .null])), (a1, .inr (0, [.int 0, .ref z.1, .int 0])), (a8, .inr (0, [.int 0, .ref z.1, .int 0])), (a15, .inr (0, [.int 0, .ref z.1, .int 0])), (a22, .inr (0, [.int 0, .ref z.1, .int 0]))]) (tz := []) hP hD hK [4] [0, 1, 2, 3] [] rfl rfl (by decide) (by decide) rfl hk26 hF24 hB26.1 ht26 hvm26 rfl rfl
  have hG : s.heap.size + 4 ≤ H26.size := Nat.le_trans hG hz26
  refine va_putF (D := (dC, dI)) (ci := 2) (v := .ref a22) (ty := .object "java/util/ArrayList") (C := RX0) (T := TX0) (N := 4) hx hb hts in_X0 tyX0 tyX0_ok nmX0 hown hK hP hD (va_Sre hS) 0 rfl rfl 3 (by decide) (hts _ q_31) (fun _ h9 => h9) rfl hin rfl (by decide +kernel) rfl rfl (Nat.le_of_ble_eq_true rfl) dX0_init_45 (fun H28 _ hP hD hS' => ?_)
  have hG : s.heap.size + 4 ≤ H28.size := Nat.le_trans hG hS'.1
  have hS := va_Str hS hS'
  have hP : va_P (dC, dI) xCl [(h0, .inr (2, [.ref a1, .ref a8, .ref a15, .ref a22])), (a1, .inr (0, [.int 0, .ref z.1, .int 0])), (a8, .inr (0, [.int 0, .ref z.1, .int 0])), (a15, .inr (0, [.int 0, .ref z.1, .int 0])), (a22, .inr (0, [.int 0, .ref z.1, .int 0]))] H28 := hP
  have hD : va_D A [(h0, .inr (2, [.ref a1, .ref a8, .ref a15, .ref a22])), (a1, .inr (0, [.int 0, .ref z.1, .int 0])), (a8, .inr (0, [.int 0, .ref z.1, .int 0])), (a15, .inr (0, [.int 0, .ref z.1, .int 0])), (a22, .inr (0, [.int 0, .ref z.1, .int 0]))] := hD
  exact W.vret hx hb hr (fun t9 ht9 hW9 => ⟨⟨(), rfl, trivial, ⟨a1, a8, a15, a22, ⟨pq_mk (wc := [(h0, .inr (2, [.ref a1, .ref a8, .ref a15, .ref a22])), (a1, .inr (0, [.int 0, .ref z.1, .int 0])), (a8, .inr (0, [.int 0, .ref z.1, .int 0])), (a15, .inr (0, [.int 0, .ref z.1, .int 0])), (a22, .inr (0, [.int 0, .ref z.1, .int 0]))]) (tc := []) hP hD hK [0, 1, 2, 3, 4] [] rfl rfl rfl rfl ht9 hW9, by rw [ht9]; exact Nat.le_trans (Nat.add_le_add_left (Nat.le_of_ble_eq_true rfl) _) hG⟩⟩⟩, hS.F ht9⟩) hS.2.2 dX0_init_48

set_option maxHeartbeats 4000000 in
set_option maxRecDepth 100000 in
theorem k5_init (l : Launch) (hl9 : l.stackTraces = false) (dC : Nat → ClassId) (dI : Nat → Nat → Nat) (z : XZ) (h0 : Nat) (o0 : Nat) (sz : Nat) : Met l yX5_init (.code yX5_init cX5_init 2 none :: wsL_law) ({ frames := 1, cells := 0, slots := 0, locals := 16 }) (va_Pc [.ref h0, .ref o0] (PC (dC, dI) [(h0, .inr (5, [.null, .int 0]))] [] sz z)) (va_Qv (fun (_ : Unit) => True) (fun (_ : Unit) (t : State) => PG (dC, dI) [(h0, .inr (5, [.ref o0, .int 0]))] [] (va_A [(h0, .inr (5, [.null, .int 0]))] sz) sz 0 t) (va_A [(h0, .inr (5, [.null, .int 0]))] sz)) 0 0 (va_A [(h0, .inr (5, [.null, .int 0]))] sz) := by
  refine Met.ofW (cc := cX5_init) (maxL := 2) (ret := none) (by decide) rfl ?_
  intro p e s m args below meth c s₁ B hml hv
  obtain ⟨rfl, hsz, hP, hK, hD0, hX, hT⟩ := hv
  have hx := B.exec
  have hb := B.bytes
  have hr := B.returns
  have hts0 := atoms_spec (ws := .code yX5_init cX5_init 2 none :: wsL_law) B.pre
  have hts := xTail hts0
  have hown : s.vm.findClass RX5 = some m.cls := findClass_of_methodNamed B.named
  have hlocks := B.notSynchronized
  have hin : meth.name = "<init>" := (name_of_methodNamed B.named B.method).1
  subst hsz
  have hD := hD0.self (sz := s.heap.size)
  generalize hAe : va_A [(h0, .inr (5, [.null, .int 0]))] s.heap.size = A at hD hX ⊢
  have hA : ∀ q : Nat, s.heap.size ≤ q → A q := fun q h => by rw [← hAe]; exact Or.inr h
  have hS : va_S A s.heap s.heap [] := va_S.rf
  have hG : s.heap.size + 0 ≤ s.heap.size := Nat.le_refl _
  have hl := lv_entry ([.ref h0, .ref o0]) (n := 2) (Nat.le_of_ble_eq_true rfl)
  rw [lg_entry_eq]
  generalize (lg_sl ([.ref h0, .ref o0]) ++ List.replicate (2 - (lg_sl ([.ref h0, .ref o0])).length) Slot.unset).toArray = ls at hl ⊢
  have hl : lv_has ls 2 [(0, .ref h0), (1, .ref o0)] := hl
  refine lv_aload_n hx hb dX5_init_0 rfl (lv_at hl 0 rfl) ?_
  refine W.objInit hx hb hown (hts _ q_38) (hts _ q_4) (hts _ q_5) rfl (by rw [hml]; exact hl.1) rfl dX5_init_1 (Nat.le_of_ble_eq_true rfl) (Nat.le_of_ble_eq_true rfl) ?_
  refine W.eq (g2 := F0 m 4 ls []) rfl ?_
  refine lv_aload_n hx hb dX5_init_4 rfl (lv_at hl 0 rfl) ?_
  refine lv_aload_n hx hb dX5_init_5 rfl (lv_at hl 1 rfl) ?_
  refine va_putF (D := (dC, dI)) (ci := 5) (v := .ref o0) (ty := .object "Deltacycle$Circuit") (C := RX5) (T := TX5) (N := 2) hx hb hts in_X5 tyX5 tyX5_ok nmX5 hown hK hP hD (va_Sre hS) 0 rfl rfl 0 (by decide) (hts _ q_39) (fun _ h9 => h9) rfl hin rfl (by decide +kernel) rfl rfl (Nat.le_of_ble_eq_true rfl) dX5_init_6 (fun H1 _ hP hD hS' => ?_)
  have hG : s.heap.size + 0 ≤ H1.size := Nat.le_trans hG hS'.1
  have hS := va_Str hS hS'
  have hP : va_P (dC, dI) xCl [(h0, .inr (5, [.ref o0, .int 0]))] H1 := hP
  have hD : va_D A [(h0, .inr (5, [.ref o0, .int 0]))] := hD
  exact W.vret hx hb hr (fun t9 ht9 hW9 => ⟨⟨(), rfl, trivial, ⟨pq_mk (wc := [(h0, .inr (5, [.ref o0, .int 0]))]) (tc := []) hP hD hK [0] [] rfl rfl rfl rfl ht9 hW9, by rw [ht9]; exact Nat.le_trans (Nat.add_le_add_left (Nat.le_of_ble_eq_true rfl) _) hG⟩⟩, hS.F ht9⟩) hS.2.2 dX5_init_9

set_option maxHeartbeats 4000000 in
set_option maxRecDepth 100000 in
theorem k6_init (l : Launch) (hl9 : l.stackTraces = false) (dC : Nat → ClassId) (dI : Nat → Nat → Nat) (z : XZ) (h0 : Nat) (o0 : Nat) (sz : Nat) : Met l yX4_init (.code yX4_init cX4_init 2 none :: wsL_law) ({ frames := 1, cells := 1, slots := 8, locals := 16 }) (va_Pc [.ref h0, .ref o0] (PC (dC, dI) [(h0, .inr (4, [.null, .null, .int 0]))] [] sz z)) (va_Qv (fun (_ : Unit) => True) (fun (_ : Unit) (t : State) => ∃ (n0 : Nat), ∃ (m0 : ClassId), PG (dC, dI) [(h0, .inr (4, [.ref o0, .ref n0, .int 0])), (n0, .inl (m0, 8, .inl (fun _ => 0)))] [(m0, .int)] (va_A [(h0, .inr (4, [.null, .null, .int 0]))] sz) sz 1 t) (va_A [(h0, .inr (4, [.null, .null, .int 0]))] sz)) 1 8 (va_A [(h0, .inr (4, [.null, .null, .int 0]))] sz) := by
  refine Met.ofW (cc := cX4_init) (maxL := 2) (ret := none) (by decide) rfl ?_
  intro p e s m args below meth c s₁ B hml hv
  obtain ⟨rfl, hsz, hP, hK, hD0, hX, hT⟩ := hv
  have hx := B.exec
  have hb := B.bytes
  have hr := B.returns
  have hts0 := atoms_spec (ws := .code yX4_init cX4_init 2 none :: wsL_law) B.pre
  have hts := xTail hts0
  have hown : s.vm.findClass RX4 = some m.cls := findClass_of_methodNamed B.named
  have hlocks := B.notSynchronized
  have hin : meth.name = "<init>" := (name_of_methodNamed B.named B.method).1
  subst hsz
  have hD := hD0.self (sz := s.heap.size)
  generalize hAe : va_A [(h0, .inr (4, [.null, .null, .int 0]))] s.heap.size = A at hD hX ⊢
  have hA : ∀ q : Nat, s.heap.size ≤ q → A q := fun q h => by rw [← hAe]; exact Or.inr h
  have hS : va_S A s.heap s.heap [] := va_S.rf
  have hG : s.heap.size + 0 ≤ s.heap.size := Nat.le_refl _
  have hl := lv_entry ([.ref h0, .ref o0]) (n := 2) (Nat.le_of_ble_eq_true rfl)
  rw [lg_entry_eq]
  generalize (lg_sl ([.ref h0, .ref o0]) ++ List.replicate (2 - (lg_sl ([.ref h0, .ref o0])).length) Slot.unset).toArray = ls at hl ⊢
  have hl : lv_has ls 2 [(0, .ref h0), (1, .ref o0)] := hl
  refine lv_aload_n hx hb dX4_init_0 rfl (lv_at hl 0 rfl) ?_
  refine W.objInit hx hb hown (hts _ q_47) (hts _ q_4) (hts _ q_5) rfl (by rw [hml]; exact hl.1) rfl dX4_init_1 (Nat.le_of_ble_eq_true rfl) (Nat.le_of_ble_eq_true rfl) ?_
  refine W.eq (g2 := F0 m 4 ls []) rfl ?_
  refine lv_aload_n hx hb dX4_init_4 rfl (lv_at hl 0 rfl) ?_
  refine lv_bipush (v := 8) hx hb dX4_init_5 (by decide) ?_
  refine xa_newa (atype := .int) hx hb (hts _ q_48) rfl hK hP hD hS hA (n := 8) (N' := 8) (a0 := (8, .inl (fun _ => 0))) (fun _ => rfl) (by decide) (by decide) (Nat.le_of_ble_eq_true rfl) (Nat.le_of_ble_eq_true rfl) (Nat.le_of_ble_eq_true rfl) dX4_init_7 (fun a1 k2 H3 hg8 hK hP hD hS => ?_)
  have hG : s.heap.size + 1 ≤ H3.size := by rw [hg8]; exact Nat.succ_le_succ hG
  have hK : va_K (dC, dI) xCl [(k2, .int)] s := hK
  have hP : va_P (dC, dI) xCl [(h0, .inr (4, [.null, .null, .int 0])), (a1, .inl (k2, 8, .inl (fun _ => 0)))] H3 := hP
  have hD : va_D A [(h0, .inr (4, [.null, .null, .int 0])), (a1, .inl (k2, 8, .inl (fun _ => 0)))] := hD
  refine W.widen (k := 1) (n := 8) (by decide) (by decide) ?_
  refine va_putF (D := (dC, dI)) (ci := 4) (v := .ref a1) (ty := .array .int) (C := RX4) (T := TX4) (N := 3) hx hb hts in_X4 tyX4 tyX4_ok nmX4 hown hK hP hD (va_Sre hS) 0 rfl rfl 1 (by decide) (hts _ q_49) (fun _ h9 => h9) rfl hin rfl (by decide +kernel) rfl rfl (Nat.le_of_ble_eq_true rfl) dX4_init_9 (fun H4 _ hP hD hS' => ?_)
  have hG : s.heap.size + 1 ≤ H4.size := Nat.le_trans hG hS'.1
  have hS := va_Str hS hS'
  have hP : va_P (dC, dI) xCl [(h0, .inr (4, [.null, .ref a1, .int 0])), (a1, .inl (k2, 8, .inl (fun _ => 0)))] H4 := hP
  have hD : va_D A [(h0, .inr (4, [.null, .ref a1, .int 0])), (a1, .inl (k2, 8, .inl (fun _ => 0)))] := hD
  refine lv_aload_n hx hb dX4_init_12 rfl (lv_at hl 0 rfl) ?_
  refine lv_aload_n hx hb dX4_init_13 rfl (lv_at hl 1 rfl) ?_
  refine va_putF (D := (dC, dI)) (ci := 4) (v := .ref o0) (ty := .object "Deltacycle$Circuit") (C := RX4) (T := TX4) (N := 3) hx hb hts in_X4 tyX4 tyX4_ok nmX4 hown hK hP hD (va_Sre hS) 0 rfl rfl 0 (by decide) (hts _ q_50) (fun _ h9 => h9) rfl hin rfl (by decide +kernel) rfl rfl (Nat.le_of_ble_eq_true rfl) dX4_init_14 (fun H5 _ hP hD hS' => ?_)
  have hG : s.heap.size + 1 ≤ H5.size := Nat.le_trans hG hS'.1
  have hS := va_Str hS hS'
  have hP : va_P (dC, dI) xCl [(h0, .inr (4, [.ref o0, .ref a1, .int 0])), (a1, .inl (k2, 8, .inl (fun _ => 0)))] H5 := hP
  have hD : va_D A [(h0, .inr (4, [.ref o0, .ref a1, .int 0])), (a1, .inl (k2, 8, .inl (fun _ => 0)))] := hD
  exact W.vret hx hb hr (fun t9 ht9 hW9 => ⟨⟨(), rfl, trivial, ⟨a1, k2, ⟨pq_mk (wc := [(h0, .inr (4, [.ref o0, .ref a1, .int 0])), (a1, .inl (k2, 8, .inl (fun _ => 0)))]) (tc := [(k2, .int)]) hP hD hK [0, 1] [0] rfl rfl rfl rfl ht9 hW9, by rw [ht9]; exact Nat.le_trans (Nat.add_le_add_left (Nat.le_of_ble_eq_true rfl) _) hG⟩⟩⟩, hS.F ht9⟩) hS.2.2 dX4_init_17

set_option maxHeartbeats 4000000 in
set_option maxRecDepth 100000 in
theorem k7_init (l : Launch) (hl9 : l.stackTraces = false) (dC : Nat → ClassId) (dI : Nat → Nat → Nat) (z : XZ) (h0 : Nat) (sz : Nat) : Met l yX6_init (.code yX6_init cX6_init 1 none :: wsL_law) ({ frames := 5, cells := 8, slots := 29, locals := 96 }) (va_Pc [.ref h0] (PC (dC, dI) [(h0, .inr (6, [.null, .null, .null]))] [] sz z)) (va_Qv (fun (_ : Unit) => True) (fun (_ : Unit) (t : State) => ∃ (n0 n1 n2 n3 n4 n5 n6 n7 : Nat), ∃ (m0 : ClassId), PG (dC, dI) [(h0, .inr (6, [.ref n0, .ref n1, .ref n2])), (n0, .inr (2, [.ref n3, .ref n4, .ref n5, .ref n6])), (n1, .inr (5, [.ref n0, .int 0])), (n2, .inr (4, [.ref n0, .ref n7, .int 0])), (n3, .inr (0, [.int 0, .ref z.1, .int 0])), (n4, .inr (0, [.int 0, .ref z.1, .int 0])), (n5, .inr (0, [.int 0, .ref z.1, .int 0])), (n6, .inr (0, [.int 0, .ref z.1, .int 0])), (n7, .inl (m0, 8, .inl (fun _ => 0)))] [(m0, .int)] (va_A [(h0, .inr (6, [.null, .null, .null]))] sz) sz 8 t) (va_A [(h0, .inr (6, [.null, .null, .null]))] sz)) 8 29 (va_A [(h0, .inr (6, [.null, .null, .null]))] sz) := by
  refine Met.ofW (cc := cX6_init) (maxL := 1) (ret := none) (by decide) rfl ?_
  intro p e s m args below meth c s₁ B hml hv
  obtain ⟨rfl, hsz, hP, hK, hD0, hX, hT⟩ := hv
  have hx := B.exec
  have hb := B.bytes
  have hr := B.returns
  have hts0 := atoms_spec (ws := .code yX6_init cX6_init 1 none :: wsL_law) B.pre
  have hts := xTail hts0
  have hown : s.vm.findClass RX6 = some m.cls := findClass_of_methodNamed B.named
  have hlocks := B.notSynchronized
  have hin : meth.name = "<init>" := (name_of_methodNamed B.named B.method).1
  subst hsz
  have hD := hD0.self (sz := s.heap.size)
  generalize hAe : va_A [(h0, .inr (6, [.null, .null, .null]))] s.heap.size = A at hD hX ⊢
  have hA : ∀ q : Nat, s.heap.size ≤ q → A q := fun q h => by rw [← hAe]; exact Or.inr h
  have hS : va_S A s.heap s.heap [] := va_S.rf
  have hG : s.heap.size + 0 ≤ s.heap.size := Nat.le_refl _
  have hl := lv_entry ([.ref h0]) (n := 1) (Nat.le_of_ble_eq_true rfl)
  rw [lg_entry_eq]
  generalize (lg_sl ([.ref h0]) ++ List.replicate (1 - (lg_sl ([.ref h0])).length) Slot.unset).toArray = ls at hl ⊢
  have hl : lv_has ls 1 [(0, .ref h0)] := hl
  refine lv_aload_n hx hb dX6_init_0 rfl (lv_at hl 0 rfl) ?_
  refine W.objInit hx hb hown (hts _ q_3) (hts _ q_4) (hts _ q_5) rfl (by rw [hml]; exact hl.1) rfl dX6_init_1 (Nat.le_of_ble_eq_true rfl) (Nat.le_of_ble_eq_true rfl) ?_
  refine W.eq (g2 := F0 m 4 ls []) rfl ?_
  refine lv_aload_n hx hb dX6_init_4 rfl (lv_at hl 0 rfl) ?_
  refine xa_new (ci := 2) (fs := [.null, .null, .null, .null]) (C := RX0) (T := TX0) (N := 4) hx hb hts in_X0 tyX0 tyX0_ok hown (hts _ q_6) (hts _ q_7) (hts _ q_8) hK hP hD hS hA rfl nf_X0 (Nat.le_of_ble_eq_true rfl) (Nat.le_of_ble_eq_true rfl) dX6_init_5 (fun a1 H2 hg8 hP hD hS => ?_)
  have hG : s.heap.size + 1 ≤ H2.size := by rw [hg8]; exact Nat.succ_le_succ hG
  have hP : va_P (dC, dI) xCl [(h0, .inr (6, [.null, .null, .null])), (a1, .inr (2, [.null, .null, .null, .null]))] H2 := hP
  have hD : va_D A [(h0, .inr (6, [.null, .null, .null])), (a1, .inr (2, [.null, .null, .null, .null]))] := hD
  refine W.widen (k := 1) (n := 4) (by decide) (by decide) ?_
  refine lv_dup hx hb dX6_init_8 rfl ?_
  have hF3 := va_free (wc := [(a1, .inr (2, [.null, .null, .null, .null]))]) hD hS hA [1] rfl
  refine va_callv (va_runIN (As := []) (rest := [.ref a1, .ref h0]) ⟨hx, hb, hml, hown, hts⟩ (k4_init l hl9 dC dI z a1 H2.size) ⟨va_cnB 0 hts (gIL q_32) rfl rfl rfl hT.2.2.2.2.2.1 (hts _ q_8) (by decide +kernel) ⟨Nat.le_of_ble_eq_true rfl, Nat.le_of_ble_eq_true rfl⟩, rfl, (hts _ q_33)⟩ ⟨pc_blind, fun U hU hW => ⟨rfl, pc_mk hP hD hK hS hX hT [1] [] rfl rfl rfl rfl hF3 hU hW⟩⟩ rfl rfl hl.1 rfl (lv_room (Nat.le_of_ble_eq_true rfl)) dX6_init_9 ⟨(Nat.le_of_ble_eq_true rfl), (Nat.le_of_ble_eq_true rfl)⟩) hS (fun q9 _ h9 => hF3 q9 h9) hF3 (fun u5 t5 H5 L5 ht5 hvm5 hw5 hB5 hz5 hk5 hS => ?_)
  obtain ⟨a7, a8, a9, a10, hB5⟩ := hB5
  obtain ⟨hP, hD, hK⟩ := pq_join (wr := [(h0, .inr (6, [.null, .null, .null]))]) (tr := []) (wz := [(h0, .inr (6, [.null, .null, .null])), (a1, .inr (2, [.ref a7, .ref a8, .ref a9, .ref a10])), (a7, .inr (0, [.int 0, .ref z.1, .int 0])), (a8, .inr (0, [.int 0, .ref z.1, .int 0])), (a9, .inr (0, [.int 0, .ref z.1, .int 0])), (a10, .inr (0, [.int 0, .ref z.1, .int 0]))]) (tz := []) hP hD hK [1] [0] [] rfl rfl (by decide) (by decide) rfl hk5 hF3 hB5.1 ht5 hvm5 rfl rfl
  have hG : s.heap.size + 5 ≤ H5.size := va_gr (g := 1) (g1 := 4) hG (by rw [← ht5]; exact hB5.2)
  refine W.widen (k := 5) (n := 16) (by decide) (by decide) ?_
  refine va_putF (D := (dC, dI)) (ci := 6) (v := .ref a1) (ty := .object "Deltacycle$Circuit") (C := RX6) (T := TX6) (N := 3) hx hb hts in_X6 tyX6 tyX6_ok nmX6 hown hK hP hD (va_Sre hS) 0 rfl rfl 0 (by decide) (hts _ q_34) (fun _ h9 => h9) rfl hin rfl (by decide +kernel) rfl rfl (Nat.le_of_ble_eq_true rfl) dX6_init_12 (fun H11 _ hP hD hS' => ?_)
  have hG : s.heap.size + 5 ≤ H11.size := Nat.le_trans hG hS'.1
  have hS := va_Str hS hS'
  have hP : va_P (dC, dI) xCl [(h0, .inr (6, [.ref a1, .null, .null])), (a1, .inr (2, [.ref a7, .ref a8, .ref a9, .ref a10])), (a7, .inr (0, [.int 0, .ref z.1, .int 0])), (a8, .inr (0, [.int 0, .ref z.1, .int 0])), (a9, .inr (0, [.int 0, .ref z.1, .int 0])), (a10, .inr (0, [.int 0, .ref z.1, .int 0]))] H11 := hP
  have hD : va_D A [(h0, .inr (6, [.ref a1, .null, .null])), (a1, .inr (2, [.ref a7, .ref a8, .ref a9, .ref a10])), (a7, .inr (0, [.int 0, .ref z.1, .int 0])), (a8, .inr (0, [.int 0, .ref z.1, .int 0])), (a9, .inr (0, [.int 0, .ref z.1, .int 0])), (a10, .inr (0, [.int 0, .ref z.1, .int 0]))] := hD
  refine lv_aload_n hx hb dX6_init_15 rfl (lv_at hl 0 rfl) ?_
  refine xa_new (ci := 5) (fs := [.null, .int 0]) (C := RX5) (T := TX5) (N := 2) hx hb hts in_X5 tyX5 tyX5_ok hown (hts _ q_35) (hts _ q_36) (hts _ q_37) hK hP hD hS hA rfl nf_X5 (Nat.le_of_ble_eq_true rfl) (Nat.le_of_ble_eq_true rfl) dX6_init_16 (fun a12 H13 hg8 hP hD hS => ?_)
  have hG : s.heap.size + 6 ≤ H13.size := by rw [hg8]; exact Nat.succ_le_succ hG
  have hP : va_P (dC, dI) xCl [(h0, .inr (6, [.ref a1, .null, .null])), (a1, .inr (2, [.ref a7, .ref a8, .ref a9, .ref a10])), (a7, .inr (0, [.int 0, .ref z.1, .int 0])), (a8, .inr (0, [.int 0, .ref z.1, .int 0])), (a9, .inr (0, [.int 0, .ref z.1, .int 0])), (a10, .inr (0, [.int 0, .ref z.1, .int 0])), (a12, .inr (5, [.null, .int 0]))] H13 := hP
  have hD : va_D A [(h0, .inr (6, [.ref a1, .null, .null])), (a1, .inr (2, [.ref a7, .ref a8, .ref a9, .ref a10])), (a7, .inr (0, [.int 0, .ref z.1, .int 0])), (a8, .inr (0, [.int 0, .ref z.1, .int 0])), (a9, .inr (0, [.int 0, .ref z.1, .int 0])), (a10, .inr (0, [.int 0, .ref z.1, .int 0])), (a12, .inr (5, [.null, .int 0]))] := hD
  refine W.widen (k := 6) (n := 18) (by decide) (by decide) ?_
  refine lv_dup hx hb dX6_init_19 rfl ?_
  refine lv_aload_n hx hb dX6_init_20 rfl (lv_at hl 0 rfl) ?_
  refine va_get (D := (dC, dI)) (ci := 6) (v := .ref a1) (C := RX6) (T := TX6) (N := 3) hx hb hts in_X6 hown hK hP 0 rfl rfl 0 (by decide) (hts _ q_34) (fun _ h9 => h9) rfl dX6_init_21 ?_
  have hF14 := va_free (wc := [(a12, .inr (5, [.null, .int 0]))]) hD hS hA [6] rfl
  refine va_callv (va_runI (As := [.ref a1]) (rest := [.ref a12, .ref h0]) ⟨hx, hb, hml, hown, hts⟩ (k5_init l hl9 dC dI z a12 a1 H13.size) (cwI 1 hts (gIL q_40) rfl rfl rfl (hts _ q_37) (hts _ q_41) (hts _ q_42) rfl (by decide +kernel) ⟨Nat.le_of_ble_eq_true rfl, Nat.le_of_ble_eq_true rfl⟩) ⟨pc_blind, fun U hU hW => ⟨rfl, pc_mk hP hD hK hS hX hT [6] [] rfl rfl rfl rfl hF14 hU hW⟩⟩ rfl rfl hl.1 rfl (lv_room (Nat.le_of_ble_eq_true rfl)) dX6_init_24 ⟨(Nat.le_of_ble_eq_true rfl), (Nat.le_of_ble_eq_true rfl)⟩) hS (fun q9 _ h9 => hF14 q9 h9) hF14 (fun u16 t16 H16 L16 ht16 hvm16 hw16 hB16 hz16 hk16 hS => ?_)
  obtain ⟨hP, hD, hK⟩ := pq_join (wr := [(h0, .inr (6, [.ref a1, .null, .null])), (a1, .inr (2, [.ref a7, .ref a8, .ref a9, .ref a10])), (a7, .inr (0, [.int 0, .ref z.1, .int 0])), (a8, .inr (0, [.int 0, .ref z.1, .int 0])), (a9, .inr (0, [.int 0, .ref z.1, .int 0])), (a10, .inr (0, [.int 0, .ref z.1, .int 0]))]) (tr := []) (wz := [(h0, .inr (6, [.ref a1, .null, .null])), (a1, .inr (2, [.ref a7, .ref a8, .ref a9, .ref a10])), (a7, .inr (0, [.int 0, .ref z.1, .int 0])), (a8, .inr (0, [.int 0, .ref z.1, .int 0])), (a9, .inr (0, [.int 0, .ref z.1, .int 0])), (a10, .inr (0, [.int 0, .ref z.1, .int 0])), (a12, .inr (5, [.ref a1, .int 0]))]) (tz := []) hP hD hK [6] [0, 1, 2, 3, 4, 5] [] rfl rfl (by decide) (by decide) rfl hk16 hF14 hB16.1 ht16 hvm16 rfl rfl
  have hG : s.heap.size + 6 ≤ H16.size := Nat.le_trans hG hz16
  refine va_putF (D := (dC, dI)) (ci := 6) (v := .ref a12) (ty := .object "Deltacycle$Simulation") (C := RX6) (T := TX6) (N := 3) hx hb hts in_X6 tyX6 tyX6_ok nmX6 hown hK hP hD (va_Sre hS) 0 rfl rfl 1 (by decide) (hts _ q_43) (fun _ h9 => h9) rfl hin rfl (by decide +kernel) rfl rfl (Nat.le_of_ble_eq_true rfl) dX6_init_27 (fun H18 _ hP hD hS' => ?_)
  have hG : s.heap.size + 6 ≤ H18.size := Nat.le_trans hG hS'.1
  have hS := va_Str hS hS'
  have hP : va_P (dC, dI) xCl [(h0, .inr (6, [.ref a1, .ref a12, .null])), (a1, .inr (2, [.ref a7, .ref a8, .ref a9, .ref a10])), (a7, .inr (0, [.int 0, .ref z.1, .int 0])), (a8, .inr (0, [.int 0, .ref z.1, .int 0])), (a9, .inr (0, [.int 0, .ref z.1, .int 0])), (a10, .inr (0, [.int 0, .ref z.1, .int 0])), (a12, .inr (5, [.ref a1, .int 0]))] H18 := hP
  have hD : va_D A [(h0, .inr (6, [.ref a1, .ref a12, .null])), (a1, .inr (2, [.ref a7, .ref a8, .ref a9, .ref a10])), (a7, .inr (0, [.int 0, .ref z.1, .int 0])), (a8, .inr (0, [.int 0, .ref z.1, .int 0])), (a9, .inr (0, [.int 0, .ref z.1, .int 0])), (a10, .inr (0, [.int 0, .ref z.1, .int 0])), (a12, .inr (5, [.ref a1, .int 0]))] := hD
  refine lv_aload_n hx hb dX6_init_30 rfl (lv_at hl 0 rfl) ?_
  refine xa_new (ci := 4) (fs := [.null, .null, .int 0]) (C := RX4) (T := TX4) (N := 3) hx hb hts in_X4 tyX4 tyX4_ok hown (hts _ q_44) (hts _ q_45) (hts _ q_46) hK hP hD hS hA rfl nf_X4 (Nat.le_of_ble_eq_true rfl) (Nat.le_of_ble_eq_true rfl) dX6_init_31 (fun a19 H20 hg8 hP hD hS => ?_)
  have hG : s.heap.size + 7 ≤ H20.size := by rw [hg8]; exact Nat.succ_le_succ hG
  have hP : va_P (dC, dI) xCl [(h0, .inr (6, [.ref a1, .ref a12, .null])), (a1, .inr (2, [.ref a7, .ref a8, .ref a9, .ref a10])), (a7, .inr (0, [.int 0, .ref z.1, .int 0])), (a8, .inr (0, [.int 0, .ref z.1, .int 0])), (a9, .inr (0, [.int 0, .ref z.1, .int 0])), (a10, .inr (0, [.int 0, .ref z.1, .int 0])), (a12, .inr (5, [.ref a1, .int 0])), (a19, .inr (4, [.null, .null, .int 0]))] H20 := hP
  have hD : va_D A [(h0, .inr (6, [.ref a1, .ref a12, .null])), (a1, .inr (2, [.ref a7, .ref a8, .ref a9, .ref a10])), (a7, .inr (0, [.int 0, .ref z.1, .int 0])), (a8, .inr (0, [.int 0, .ref z.1, .int 0])), (a9, .inr (0, [.int 0, .ref z.1, .int 0])), (a10, .inr (0, [.int 0, .ref z.1, .int 0])), (a12, .inr (5, [.ref a1, .int 0])), (a19, .inr (4, [.null, .null, .int 0]))] := hD
  refine W.widen (k := 7) (n := 21) (by decide) (by decide) ?_
  refine lv_dup hx hb dX6_init_34 rfl ?_
  refine lv_aload_n hx hb dX6_init_35 rfl (lv_at hl 0 rfl) ?_
  refine va_get (D := (dC, dI)) (ci := 6) (v := .ref a1) (C := RX6) (T := TX6) (N := 3) hx hb hts in_X6 hown hK hP 0 rfl rfl 0 (by decide) (hts _ q_34) (fun _ h9 => h9) rfl dX6_init_36 ?_
  have hF21 := va_free (wc := [(a19, .inr (4, [.null, .null, .int 0]))]) hD hS hA [7] rfl
  refine va_callv (va_runI (As := [.ref a1]) (rest := [.ref a19, .ref h0]) ⟨hx, hb, hml, hown, hts⟩ (k6_init l hl9 dC dI z a19 a1 H20.size) (cwI 1 hts (gIL q_51) rfl rfl rfl (hts _ q_46) (hts _ q_52) (hts _ q_53) rfl (by decide +kernel) ⟨Nat.le_of_ble_eq_true rfl, Nat.le_of_ble_eq_true rfl⟩) ⟨pc_blind, fun U hU hW => ⟨rfl, pc_mk hP hD hK hS hX hT [7] [] rfl rfl rfl rfl hF21 hU hW⟩⟩ rfl rfl hl.1 rfl (lv_room (Nat.le_of_ble_eq_true rfl)) dX6_init_39 ⟨(Nat.le_of_ble_eq_true rfl), (Nat.le_of_ble_eq_true rfl)⟩) hS (fun q9 _ h9 => hF21 q9 h9) hF21 (fun u23 t23 H23 L23 ht23 hvm23 hw23 hB23 hz23 hk23 hS => ?_)
  obtain ⟨a25, k26, hB23⟩ := hB23
  obtain ⟨hP, hD, hK⟩ := pq_join (wr := [(h0, .inr (6, [.ref a1, .ref a12, .null])), (a1, .inr (2, [.ref a7, .ref a8, .ref a9, .ref a10])), (a7, .inr (0, [.int 0, .ref z.1, .int 0])), (a8, .inr (0, [.int 0, .ref z.1, .int 0])), (a9, .inr (0, [.int 0, .ref z.1, .int 0])), (a10, .inr (0, [.int 0, .ref z.1, .int 0])), (a12, .inr (5, [.ref a1, .int 0]))]) (tr := []) (wz := [(h0, .inr (6, [.ref a1, .ref a12, .null])), (a1, .inr (2, [.ref a7, .ref a8, .ref a9, .ref a10])), (a7, .inr (0, [.int 0, .ref z.1, .int 0])), (a8, .inr (0, [.int 0, .ref z.1, .int 0])), (a9, .inr (0, [.int 0, .ref z.1, .int 0])), (a10, .inr (0, [.int 0, .ref z.1, .int 0])), (a12, .inr (5, [.ref a1, .int 0])), (a19, .inr (4, [.ref a1, .ref a25, .int 0])), (a25, .inl (k26, 8, .inl (fun _ => 0)))]) (tz := [(k26, .int)]) hP hD hK [7] [0, 1, 2, 3, 4, 5, 6] [] rfl rfl (by decide) (by decide) rfl hk23 hF21 hB23.1 ht23 hvm23 rfl rfl
  have hG : s.heap.size + 8 ≤ H23.size := va_gr (g := 7) (g1 := 1) hG (by rw [← ht23]; exact hB23.2)
  refine W.widen (k := 8) (n := 29) (by decide) (by decide) ?_
  refine va_putF (D := (dC, dI)) (ci := 6) (v := .ref a19) (ty := .object "Deltacycle$Rows") (C := RX6) (T := TX6) (N := 3) hx hb hts in_X6 tyX6 tyX6_ok nmX6 hown hK hP hD (va_Sre hS) 0 rfl rfl 2 (by decide) (hts _ q_54) (fun _ h9 => h9) rfl hin rfl (by decide +kernel) rfl rfl (Nat.le_of_ble_eq_true rfl) dX6_init_42 (fun H27 _ hP hD hS' => ?_)
  have hG : s.heap.size + 8 ≤ H27.size := Nat.le_trans hG hS'.1
  have hS := va_Str hS hS'
  have hP : va_P (dC, dI) xCl [(h0, .inr (6, [.ref a1, .ref a12, .ref a19])), (a1, .inr (2, [.ref a7, .ref a8, .ref a9, .ref a10])), (a7, .inr (0, [.int 0, .ref z.1, .int 0])), (a8, .inr (0, [.int 0, .ref z.1, .int 0])), (a9, .inr (0, [.int 0, .ref z.1, .int 0])), (a10, .inr (0, [.int 0, .ref z.1, .int 0])), (a12, .inr (5, [.ref a1, .int 0])), (a19, .inr (4, [.ref a1, .ref a25, .int 0])), (a25, .inl (k26, 8, .inl (fun _ => 0)))] H27 := hP
  have hD : va_D A [(h0, .inr (6, [.ref a1, .ref a12, .ref a19])), (a1, .inr (2, [.ref a7, .ref a8, .ref a9, .ref a10])), (a7, .inr (0, [.int 0, .ref z.1, .int 0])), (a8, .inr (0, [.int 0, .ref z.1, .int 0])), (a9, .inr (0, [.int 0, .ref z.1, .int 0])), (a10, .inr (0, [.int 0, .ref z.1, .int 0])), (a12, .inr (5, [.ref a1, .int 0])), (a19, .inr (4, [.ref a1, .ref a25, .int 0])), (a25, .inl (k26, 8, .inl (fun _ => 0)))] := hD
  exact W.vret hx hb hr (fun t9 ht9 hW9 => ⟨⟨(), rfl, trivial, ⟨a1, a12, a19, a7, a8, a9, a10, a25, k26, ⟨pq_mk (wc := [(h0, .inr (6, [.ref a1, .ref a12, .ref a19])), (a1, .inr (2, [.ref a7, .ref a8, .ref a9, .ref a10])), (a12, .inr (5, [.ref a1, .int 0])), (a19, .inr (4, [.ref a1, .ref a25, .int 0])), (a7, .inr (0, [.int 0, .ref z.1, .int 0])), (a8, .inr (0, [.int 0, .ref z.1, .int 0])), (a9, .inr (0, [.int 0, .ref z.1, .int 0])), (a10, .inr (0, [.int 0, .ref z.1, .int 0])), (a25, .inl (k26, 8, .inl (fun _ => 0)))]) (tc := [(k26, .int)]) hP hD hK [0, 1, 6, 7, 2, 3, 4, 5, 8] [0] rfl rfl rfl rfl ht9 hW9, by rw [ht9]; exact Nat.le_trans (Nat.add_le_add_left (Nat.le_of_ble_eq_true rfl) _) hG⟩⟩⟩, hS.F ht9⟩) hS.2.2 dX6_init_45

set_option maxHeartbeats 4000000 in
set_option maxRecDepth 100000 in
theorem k8_init (l : Launch) (hl9 : l.stackTraces = false) (dC : Nat → ClassId) (dI : Nat → Nat → Nat) (z : XZ) (h0 : Nat) (sz : Nat) : Met l yX9_init (.code yX9_init cX9_init 1 none :: wsL_law) ({ frames := 4, cells := 4, slots := 12, locals := 76 }) (va_Pc [.ref h0] (PC (dC, dI) [(h0, .inr (8, [.int 0, .null, .null, .null, .null, .int 0]))] [] sz z)) (va_Qv (fun (_ : Unit) => True) (fun (_ : Unit) (t : State) => ∃ (n0 n1 n2 n3 : Nat), PG (dC, dI) [(h0, .inr (8, [.int 0, .ref n0, .ref n1, .ref n2, .ref n3, .int 0])), (n0, .inr (0, [.int 0, .ref z.1, .int 0])), (n1, .inr (0, [.int 0, .ref z.1, .int 0])), (n2, .inr (0, [.int 0, .ref z.1, .int 0])), (n3, .inr (0, [.int 0, .ref z.1, .int 0]))] [] (va_A [(h0, .inr (8, [.int 0, .null, .null, .null, .null, .int 0]))] sz) sz 4 t) (va_A [(h0, .inr (8, [.int 0, .null, .null, .null, .null, .int 0]))] sz)) 4 12 (va_A [(h0, .inr (8, [.int 0, .null, .null, .null, .null, .int 0]))] sz) := by
  refine Met.ofW (cc := cX9_init) (maxL := 1) (ret := none) (by decide) rfl ?_
  intro p e s m args below meth c s₁ B hml hv
  obtain ⟨rfl, hsz, hP, hK, hD0, hX, hT⟩ := hv
  have hx := B.exec
  have hb := B.bytes
  have hr := B.returns
  have hts0 := atoms_spec (ws := .code yX9_init cX9_init 1 none :: wsL_law) B.pre
  have hts := xTail hts0
  have hown : s.vm.findClass RX9 = some m.cls := findClass_of_methodNamed B.named
  have hlocks := B.notSynchronized
  have hin : meth.name = "<init>" := (name_of_methodNamed B.named B.method).1
  subst hsz
  have hD := hD0.self (sz := s.heap.size)
  generalize hAe : va_A [(h0, .inr (8, [.int 0, .null, .null, .null, .null, .int 0]))] s.heap.size = A at hD hX ⊢
  have hA : ∀ q : Nat, s.heap.size ≤ q → A q := fun q h => by rw [← hAe]; exact Or.inr h
  have hS : va_S A s.heap s.heap [] := va_S.rf
  have hG : s.heap.size + 0 ≤ s.heap.size := Nat.le_refl _
  have hl := lv_entry ([.ref h0]) (n := 1) (Nat.le_of_ble_eq_true rfl)
  rw [lg_entry_eq]
  generalize (lg_sl ([.ref h0]) ++ List.replicate (1 - (lg_sl ([.ref h0])).length) Slot.unset).toArray = ls at hl ⊢
  have hl : lv_has ls 1 [(0, .ref h0)] := hl
  refine lv_aload_n hx hb dX9_init_0 rfl (lv_at hl 0 rfl) ?_
  refine W.objInit hx hb hown (hts _ q_61) (hts _ q_4) (hts _ q_5) rfl (by rw [hml]; exact hl.1) rfl dX9_init_1 (Nat.le_of_ble_eq_true rfl) (Nat.le_of_ble_eq_true rfl) ?_
  refine W.eq (g2 := F0 m 4 ls []) rfl ?_
  refine lv_aload_n hx hb dX9_init_4 rfl (lv_at hl 0 rfl) ?_
  refine xa_new (ci := 0) (fs := [.int 0, .null, .int 0]) (C := RJx4a65c) (T := TJx4a65c) (N := 3) hx hb hts in_Jx4a65c tyJx4a65c tyJx4a65c_ok hown (hts _ q_62) (hts _ q_11) (hts _ q_12) hK hP hD hS hA rfl nf_Jx4a65c (Nat.le_of_ble_eq_true rfl) (Nat.le_of_ble_eq_true rfl) dX9_init_5 (fun a1 H2 hg8 hP hD hS => ?_)
  have hG : s.heap.size + 1 ≤ H2.size := by rw [hg8]; exact Nat.succ_le_succ hG
  have hP : va_P (dC, dI) xCl [(h0, .inr (8, [.int 0, .null, .null, .null, .null, .int 0])), (a1, .inr (0, [.int 0, .null, .int 0]))] H2 := hP
  have hD : va_D A [(h0, .inr (8, [.int 0, .null, .null, .null, .null, .int 0])), (a1, .inr (0, [.int 0, .null, .int 0]))] := hD
  refine W.widen (k := 1) (n := 3) (by decide) (by decide) ?_
  refine lv_dup hx hb dX9_init_8 rfl ?_
  have hF3 := va_free (wc := [(a1, .inr (0, [.int 0, .null, .int 0]))]) hD hS hA [1] rfl
  refine va_callv (va_runI (As := []) (rest := [.ref a1, .ref h0]) ⟨hx, hb, hml, hown, hts⟩ (k3_init l hl9 dC dI z a1 H2.size) (cwI 0 hts (gIL q_25) rfl rfl rfl (hts _ q_12) (hts _ q_63) (hts _ q_27) rfl (by decide +kernel) ⟨Nat.le_of_ble_eq_true rfl, Nat.le_of_ble_eq_true rfl⟩) ⟨pc_blind, fun U hU hW => ⟨rfl, pc_mk hP hD hK hS hX hT [1] [] rfl rfl rfl rfl hF3 hU hW⟩⟩ rfl rfl hl.1 rfl (lv_room (Nat.le_of_ble_eq_true rfl)) dX9_init_9 ⟨(Nat.le_of_ble_eq_true rfl), (Nat.le_of_ble_eq_true rfl)⟩) hS (fun q9 _ h9 => hF3 q9 h9) hF3 (fun u5 t5 H5 L5 ht5 hvm5 hw5 hB5 hz5 hk5 hS => ?_)
  obtain ⟨hP, hD, hK⟩ := pq_join (wr := [(h0, .inr (8, [.int 0, .null, .null, .null, .null, .int 0]))]) (tr := []) (wz := [(h0, .inr (8, [.int 0, .null, .null, .null, .null, .int 0])), (a1, .inr (0, [.int 0, .ref z.1, .int 0]))]) (tz := []) hP hD hK [1] [0] [] rfl rfl (by decide) (by decide) rfl hk5 hF3 hB5.1 ht5 hvm5 rfl rfl
  have hG : s.heap.size + 1 ≤ H5.size := Nat.le_trans hG hz5
  refine va_putF (D := (dC, dI)) (ci := 8) (v := .ref a1) (ty := .object "java/util/ArrayList") (C := RX9) (T := TX9) (N := 6) hx hb hts in_X9 tyX9 tyX9_ok nmX9 hown hK hP hD (va_Sre hS) 0 rfl rfl 1 (by decide) (hts _ q_64) (fun _ h9 => h9) rfl hin rfl (by decide +kernel) rfl rfl (Nat.le_of_ble_eq_true rfl) dX9_init_12 (fun H7 _ hP hD hS' => ?_)
  have hG : s.heap.size + 1 ≤ H7.size := Nat.le_trans hG hS'.1
  have hS := va_Str hS hS'
  have hP : va_P (dC, dI) xCl [(h0, .inr (8, [.int 0, .ref a1, .null, .null, .null, .int 0])), (a1, .inr (0, [.int 0, .ref z.1, .int 0]))] H7 := hP
  have hD : va_D A [(h0, .inr (8, [.int 0, .ref a1, .null, .null, .null, .int 0])), (a1, .inr (0, [.int 0, .ref z.1, .int 0]))] := hD
  refine lv_aload_n hx hb dX9_init_15 rfl (lv_at hl 0 rfl) ?_
  refine xa_new (ci := 0) (fs := [.int 0, .null, .int 0]) (C := RJx4a65c) (T := TJx4a65c) (N := 3) hx hb hts in_Jx4a65c tyJx4a65c tyJx4a65c_ok hown (hts _ q_62) (hts _ q_11) (hts _ q_12) hK hP hD hS hA rfl nf_Jx4a65c (Nat.le_of_ble_eq_true rfl) (Nat.le_of_ble_eq_true rfl) dX9_init_16 (fun a8 H9 hg8 hP hD hS => ?_)
  have hG : s.heap.size + 2 ≤ H9.size := by rw [hg8]; exact Nat.succ_le_succ hG
  have hP : va_P (dC, dI) xCl [(h0, .inr (8, [.int 0, .ref a1, .null, .null, .null, .int 0])), (a1, .inr (0, [.int 0, .ref z.1, .int 0])), (a8, .inr (0, [.int 0, .null, .int 0]))] H9 := hP
  have hD : va_D A [(h0, .inr (8, [.int 0, .ref a1, .null, .null, .null, .int 0])), (a1, .inr (0, [.int 0, .ref z.1, .int 0])), (a8, .inr (0, [.int 0, .null, .int 0]))] := hD
  refine W.widen (k := 2) (n := 6) (by decide) (by decide) ?_
  refine lv_dup hx hb dX9_init_19 rfl ?_
  have hF10 := va_free (wc := [(a8, .inr (0, [.int 0, .null, .int 0]))]) hD hS hA [2] rfl
  refine va_callv (va_runI (As := []) (rest := [.ref a8, .ref h0]) ⟨hx, hb, hml, hown, hts⟩ (k3_init l hl9 dC dI z a8 H9.size) (cwI 0 hts (gIL q_25) rfl rfl rfl (hts _ q_12) (hts _ q_63) (hts _ q_27) rfl (by decide +kernel) ⟨Nat.le_of_ble_eq_true rfl, Nat.le_of_ble_eq_true rfl⟩) ⟨pc_blind, fun U hU hW => ⟨rfl, pc_mk hP hD hK hS hX hT [2] [] rfl rfl rfl rfl hF10 hU hW⟩⟩ rfl rfl hl.1 rfl (lv_room (Nat.le_of_ble_eq_true rfl)) dX9_init_20 ⟨(Nat.le_of_ble_eq_true rfl), (Nat.le_of_ble_eq_true rfl)⟩) hS (fun q9 _ h9 => hF10 q9 h9) hF10 (fun u12 t12 H12 L12 ht12 hvm12 hw12 hB12 hz12 hk12 hS => ?_)
  obtain ⟨hP, hD, hK⟩ := pq_join (wr := [(h0, .inr (8, [.int 0, .ref a1, .null, .null, .null, .int 0])), (a1, .inr (0, [.int 0, .ref z.1, .int 0]))]) (tr := []) (wz := [(h0, .inr (8, [.int 0, .ref a1, .null, .null, .null, .int 0])), (a1, .inr (0, [.int 0, .ref z.1, .int 0])), (a8, .inr (0, [.int 0, .ref z.1, .int 0]))]) (tz := []) hP hD hK [2] [0, 1] [] rfl rfl (by decide) (by decide) rfl hk12 hF10 hB12.1 ht12 hvm12 rfl rfl
  have hG : s.heap.size + 2 ≤ H12.size := Nat.le_trans hG hz12
  refine va_putF (D := (dC, dI)) (ci := 8) (v := .ref a8) (ty := .object "java/util/ArrayList") (C := RX9) (T := TX9) (N := 6) hx hb hts in_X9 tyX9 tyX9_ok nmX9 hown hK hP hD (va_Sre hS) 0 rfl rfl 2 (by decide) (hts _ q_65) (fun _ h9 => h9) rfl hin rfl (by decide +kernel) rfl rfl (Nat.le_of_ble_eq_true rfl) dX9_init_23 (fun H14 _ hP hD hS' => ?_)
  have hG : s.heap.size + 2 ≤ H14.size := Nat.le_trans hG hS'.1
  have hS := va_Str hS hS'
  have hP : va_P (dC, dI) xCl [(h0, .inr (8, [.int 0, .ref a1, .ref a8, .null, .null, .int 0])), (a1, .inr (0, [.int 0, .ref z.1, .int 0])), (a8, .inr (0, [.int 0, .ref z.1, .int 0]))] H14 := hP
  have hD : va_D A [(h0, .inr (8, [.int 0, .ref a1, .ref a8, .null, .null, .int 0])), (a1, .inr (0, [.int 0, .ref z.1, .int 0])), (a8, .inr (0, [.int 0, .ref z.1, .int 0]))] := hD
  refine lv_aload_n hx hb dX9_init_26 rfl (lv_at hl 0 rfl) ?_
  refine xa_new (ci := 0) (fs := [.int 0, .null, .int 0]) (C := RJx4a65c) (T := TJx4a65c) (N := 3) hx hb hts in_Jx4a65c tyJx4a65c tyJx4a65c_ok hown (hts _ q_62) (hts _ q_11) (hts _ q_12) hK hP hD hS hA rfl nf_Jx4a65c (Nat.le_of_ble_eq_true rfl) (Nat.le_of_ble_eq_true rfl) dX9_init_27 (fun a15 H16 hg8 hP hD hS => ?_)
  have hG : s.heap.size + 3 ≤ H16.size := by rw [hg8]; exact Nat.succ_le_succ hG
  have hP : va_P (dC, dI) xCl [(h0, .inr (8, [.int 0, .ref a1, .ref a8, .null, .null, .int 0])), (a1, .inr (0, [.int 0, .ref z.1, .int 0])), (a8, .inr (0, [.int 0, .ref z.1, .int 0])), (a15, .inr (0, [.int 0, .null, .int 0]))] H16 := hP
  have hD : va_D A [(h0, .inr (8, [.int 0, .ref a1, .ref a8, .null, .null, .int 0])), (a1, .inr (0, [.int 0, .ref z.1, .int 0])), (a8, .inr (0, [.int 0, .ref z.1, .int 0])), (a15, .inr (0, [.int 0, .null, .int 0]))] := hD
  refine W.widen (k := 3) (n := 9) (by decide) (by decide) ?_
  refine lv_dup hx hb dX9_init_30 rfl ?_
  have hF17 := va_free (wc := [(a15, .inr (0, [.int 0, .null, .int 0]))]) hD hS hA [3] rfl
  refine va_callv (va_runI (As := []) (rest := [.ref a15, .ref h0]) ⟨hx, hb, hml, hown, hts⟩ (k3_init l hl9 dC dI z a15 H16.size) (cwI 0 hts (gIL q_25) rfl rfl rfl (hts _ q_12) (hts _ q_63) (hts _ q_27) rfl (by decide +kernel) ⟨Nat.le_of_ble_eq_true rfl, Nat.le_of_ble_eq_true rfl⟩) ⟨pc_blind, fun U hU hW => ⟨rfl, pc_mk hP hD hK hS hX hT [3] [] rfl rfl rfl rfl hF17 hU hW⟩⟩ rfl rfl hl.1 rfl (lv_room (Nat.le_of_ble_eq_true rfl)) dX9_init_31 ⟨(Nat.le_of_ble_eq_true rfl), (Nat.le_of_ble_eq_true rfl)⟩) hS (fun q9 _ h9 => hF17 q9 h9) hF17 (fun u19 t19 H19 L19 ht19 hvm19 hw19 hB19 hz19 hk19 hS => ?_)
  obtain ⟨hP, hD, hK⟩ := pq_join (wr := [(h0, .inr (8, [.int 0, .ref a1, .ref a8, .null, .null, .int 0])), (a1, .inr (0, [.int 0, .ref z.1, .int 0])), (a8, .inr (0, [.int 0, .ref z.1, .int 0]))]) (tr := []) (wz := [(h0, .inr (8, [.int 0, .ref a1, .ref a8, .null, .null, .int 0])), (a1, .inr (0, [.int 0, .ref z.1, .int 0])), (a8, .inr (0, [.int 0, .ref z.1, .int 0])), (a15, .inr (0, [.int 0, .ref z.1, .int 0]))]) (tz := []) hP hD hK [3] [0, 1, 2] [] rfl rfl (by decide) (by decide) rfl hk19 hF17 hB19.1 ht19 hvm19 rfl rfl
  have hG : s.heap.size + 3 ≤ H19.size := Nat.le_trans hG hz19
  refine va_putF (D := (dC, dI)) (ci := 8) (v := .ref a15) (ty := .object "java/util/ArrayList") (C := RX9) (T := TX9) (N := 6) hx hb hts in_X9 tyX9 tyX9_ok nmX9 hown hK hP hD (va_Sre hS) 0 rfl rfl 3 (by decide) (hts _ q_66) (fun _ h9 => h9) rfl hin rfl (by decide +kernel) rfl rfl (Nat.le_of_ble_eq_true rfl) dX9_init_34 (fun H21 _ hP hD hS' => ?_)
  have hG : s.heap.size + 3 ≤ H21.size := Nat.le_trans hG hS'.1
  have hS := va_Str hS hS'
  have hP : va_P (dC, dI) xCl [(h0, .inr (8, [.int 0, .ref a1, .ref a8, .ref a15, .null, .int 0])), (a1, .inr (0, [.int 0, .ref z.1, .int 0])), (a8, .inr (0, [.int 0, .ref z.1, .int 0])), (a15, .inr (0, [.int 0, .ref z.1, .int 0]))] H21 := hP
  have hD : va_D A [(h0, .inr (8, [.int 0, .ref a1, .ref a8, .ref a15, .null, .int 0])), (a1, .inr (0, [.int 0, .ref z.1, .int 0])), (a8, .inr (0, [.int 0, .ref z.1, .int 0])), (a15, .inr (0, [.int 0, .ref z.1, .int 0]))] := hD
  refine lv_aload_n hx hb dX9_init_37 rfl (lv_at hl 0 rfl) ?_
  refine xa_new (ci := 0) (fs := [.int 0, .null, .int 0]) (C := RJx4a65c) (T := TJx4a65c) (N := 3) hx hb hts in_Jx4a65c tyJx4a65c tyJx4a65c_ok hown (hts _ q_62) (hts _ q_11) (hts _ q_12) hK hP hD hS hA rfl nf_Jx4a65c (Nat.le_of_ble_eq_true rfl) (Nat.le_of_ble_eq_true rfl) dX9_init_38 (fun a22 H23 hg8 hP hD hS => ?_)
  have hG : s.heap.size + 4 ≤ H23.size := by rw [hg8]; exact Nat.succ_le_succ hG
  have hP : va_P (dC, dI) xCl [(h0, .inr (8, [.int 0, .ref a1, .ref a8, .ref a15, .null, .int 0])), (a1, .inr (0, [.int 0, .ref z.1, .int 0])), (a8, .inr (0, [.int 0, .ref z.1, .int 0])), (a15, .inr (0, [.int 0, .ref z.1, .int 0])), (a22, .inr (0, [.int 0, .null, .int 0]))] H23 := hP
  have hD : va_D A [(h0, .inr (8, [.int 0, .ref a1, .ref a8, .ref a15, .null, .int 0])), (a1, .inr (0, [.int 0, .ref z.1, .int 0])), (a8, .inr (0, [.int 0, .ref z.1, .int 0])), (a15, .inr (0, [.int 0, .ref z.1, .int 0])), (a22, .inr (0, [.int 0, .null, .int 0]))] := hD
  refine W.widen (k := 4) (n := 12) (by decide) (by decide) ?_
  refine lv_dup hx hb dX9_init_41 rfl ?_
  have hF24 := va_free (wc := [(a22, .inr (0, [.int 0, .null, .int 0]))]) hD hS hA [4] rfl
  refine va_callv (va_runI (As := []) (rest := [.ref a22, .ref h0]) ⟨hx, hb, hml, hown, hts⟩ (k3_init l hl9 dC dI z a22 H23.size) (cwI 0 hts (gIL q_25) rfl rfl rfl (hts _ q_12) (hts _ q_63) (hts _ q_27) rfl (by decide +kernel) ⟨Nat.le_of_ble_eq_true rfl, Nat.le_of_ble_eq_true rfl⟩) ⟨pc_blind, fun U hU hW => ⟨rfl, pc_mk hP hD hK hS hX hT [4] [] rfl rfl rfl rfl hF24 hU hW⟩⟩ rfl rfl hl.1 rfl (lv_room (Nat.le_of_ble_eq_true rfl)) dX9_init_42 ⟨(Nat.le_of_ble_eq_true rfl), (Nat.le_of_ble_eq_true rfl)⟩) hS (fun q9 _ h9 => hF24 q9 h9) hF24 (fun u26 t26 H26 L26 ht26 hvm26 hw26 hB26 hz26 hk26 hS => ?_)
  obtain ⟨hP, hD, hK⟩ := pq_join (wr := [(h0, .inr (8, [.int 0, .ref a1, .ref a8, .ref a15, .null, .int 0])), (a1, .inr (0, [.int 0, .ref z.1, .int 0])), (a8, .inr (0, [.int 0, .ref z.1, .int 0])), (a15, .inr (0, [.int 0, .ref z.1, .int 0]))]) (tr := []) (wz := [(h0, .inr (8, [.int 0, .ref a1, .ref a8, .ref a15, .null, .int 0])), (a1, .inr (0, [.int 0, .ref z.1, .int 0])), (a8, .inr (0, [.int 0, .ref z.1, .int 0])), (a15, .inr (0, [.int 0, .ref z.1, .int 0])), (a22, .inr (0, [.int 0, .ref z.1, .int 0]))]) (tz := []) hP hD hK [4] [0, 1, 2, 3] [] rfl rfl (by decide) (by decide) rfl hk26 hF24 hB26.1 ht26 hvm26 rfl rfl
  have hG : s.heap.size + 4 ≤ H26.size := Nat.le_trans hG hz26
  refine va_putF (D := (dC, dI)) (ci := 8) (v := .ref a22) (ty := .object "java/util/ArrayList") (C := RX9) (T := TX9) (N := 6) hx hb hts in_X9 tyX9 tyX9_ok nmX9 hown hK hP hD (va_Sre hS) 0 rfl rfl 4 (by decide) (hts _ q_67) (fun _ h9 => h9) rfl hin rfl (by decide +kernel) rfl rfl (Nat.le_of_ble_eq_true rfl) dX9_init_45 (fun H28 _ hP hD hS' => ?_)
  have hG : s.heap.size + 4 ≤ H28.size := Nat.le_trans hG hS'.1
  have hS := va_Str hS hS'
  have hP : va_P (dC, dI) xCl [(h0, .inr (8, [.int 0, .ref a1, .ref a8, .ref a15, .ref a22, .int 0])), (a1, .inr (0, [.int 0, .ref z.1, .int 0])), (a8, .inr (0, [.int 0, .ref z.1, .int 0])), (a15, .inr (0, [.int 0, .ref z.1, .int 0])), (a22, .inr (0, [.int 0, .ref z.1, .int 0]))] H28 := hP
  have hD : va_D A [(h0, .inr (8, [.int 0, .ref a1, .ref a8, .ref a15, .ref a22, .int 0])), (a1, .inr (0, [.int 0, .ref z.1, .int 0])), (a8, .inr (0, [.int 0, .ref z.1, .int 0])), (a15, .inr (0, [.int 0, .ref z.1, .int 0])), (a22, .inr (0, [.int 0, .ref z.1, .int 0]))] := hD
  exact W.vret hx hb hr (fun t9 ht9 hW9 => ⟨⟨(), rfl, trivial, ⟨a1, a8, a15, a22, ⟨pq_mk (wc := [(h0, .inr (8, [.int 0, .ref a1, .ref a8, .ref a15, .ref a22, .int 0])), (a1, .inr (0, [.int 0, .ref z.1, .int 0])), (a8, .inr (0, [.int 0, .ref z.1, .int 0])), (a15, .inr (0, [.int 0, .ref z.1, .int 0])), (a22, .inr (0, [.int 0, .ref z.1, .int 0]))]) (tc := []) hP hD hK [0, 1, 2, 3, 4] [] rfl rfl rfl rfl ht9 hW9, by rw [ht9]; exact Nat.le_trans (Nat.add_le_add_left (Nat.le_of_ble_eq_true rfl) _) hG⟩⟩⟩, hS.F ht9⟩) hS.2.2 dX9_init_48

set_option maxHeartbeats 4000000 in
set_option maxRecDepth 100000 in
theorem k9_size (l : Launch) (hl9 : l.stackTraces = false) (dC : Nat → ClassId) (dI : Nat → Nat → Nat) (z : XZ) (h0 : Nat) (sz : Nat) (p0 p1 : Int32) : Met l yJx4a65c_size_8abf5 (.code yJx4a65c_size_8abf5 cJx4a65c_size_8abf5 1 (some .int) :: wsL_law) ({ frames := 0, cells := 0, slots := 0, locals := 0 }) (va_Pc [.ref h0] (PC (dC, dI) [(h0, .inr (0, [.int p0, .ref z.1, .int p1]))] [] sz z)) (va_Qi (fun (r : Int32) (_ : Unit) => r = p1) (fun (_ : Unit) (t : State) => PG (dC, dI) [(h0, .inr (0, [.int p0, .ref z.1, .int p1]))] [] (va_A [(h0, .inr (0, [.int p0, .ref z.1, .int p1]))] sz) sz 0 t) (va_A [(h0, .inr (0, [.int p0, .ref z.1, .int p1]))] sz)) 0 0 (va_A [(h0, .inr (0, [.int p0, .ref z.1, .int p1]))] sz) := by
  refine Met.ofW (cc := cJx4a65c_size_8abf5) (maxL := 1) (ret := (some .int)) (by decide) rfl ?_
  intro p e s m args below meth c s₁ B hml hv
  obtain ⟨rfl, hsz, hP, hK, hD0, hX, hT⟩ := hv
  have hx := B.exec
  have hb := B.bytes
  have hr := B.returns
  have hts0 := atoms_spec (ws := .code yJx4a65c_size_8abf5 cJx4a65c_size_8abf5 1 (some .int) :: wsL_law) B.pre
  have hts := xTail hts0
  have hown : s.vm.findClass RJx4a65c = some m.cls := findClass_of_methodNamed B.named
  have hlocks := B.notSynchronized
  subst hsz
  have hD := hD0.self (sz := s.heap.size)
  generalize hAe : va_A [(h0, .inr (0, [.int p0, .ref z.1, .int p1]))] s.heap.size = A at hD hX ⊢
  have hA : ∀ q : Nat, s.heap.size ≤ q → A q := fun q h => by rw [← hAe]; exact Or.inr h
  have hS : va_S A s.heap s.heap [] := va_S.rf
  have hG : s.heap.size + 0 ≤ s.heap.size := Nat.le_refl _
  have hl := lv_entry ([.ref h0]) (n := 1) (Nat.le_of_ble_eq_true rfl)
  rw [lg_entry_eq]
  generalize (lg_sl ([.ref h0]) ++ List.replicate (1 - (lg_sl ([.ref h0])).length) Slot.unset).toArray = ls at hl ⊢
  have hl : lv_has ls 1 [(0, .ref h0)] := hl
  refine lv_aload_n hx hb dJx4a65c_size_8abf5_0 rfl (lv_at hl 0 rfl) ?_
  refine va_get (D := (dC, dI)) (ci := 0) (v := .int p1) (C := RJx4a65c) (T := TJx4a65c) (N := 3) hx hb hts in_Jx4a65c hown hK hP 0 rfl rfl 2 (by decide) (hts _ q_74) (fun _ h9 => h9) rfl dJx4a65c_size_8abf5_1 ?_
  exact W.iret (v := p1) hx hb hr (fun t9 ht9 hW9 => ⟨⟨p1, (), rfl, rfl, ⟨pq_mk (wc := [(h0, .inr (0, [.int p0, .ref z.1, .int p1]))]) (tc := []) hP hD hK [0] [] rfl rfl rfl rfl ht9 hW9, by rw [ht9]; exact Nat.le_trans (Nat.add_le_add_left (Nat.le_of_ble_eq_true rfl) _) hG⟩⟩, hS.F ht9⟩) hS.2.2 dJx4a65c_size_8abf5_4

set_option maxHeartbeats 4000000 in
set_option maxRecDepth 100000 in
theorem k10_requireRoomForSource (l : Launch) (hl9 : l.stackTraces = false) (dC : Nat → ClassId) (dI : Nat → Nat → Nat) (z : XZ) (h0 h1 h2 : Nat) (o0 o1 o2 o3 o4 : Nat) (sz : Nat) : Met l yX6_requireRoomForSource (.code yX6_requireRoomForSource cX6_requireRoomForSource 1 none :: wsL_law) ({ frames := 1, cells := 0, slots := 0, locals := 20 }) (va_Pc [.ref h0] (PC (dC, dI) [(h0, .inr (6, [.ref h1, .ref o0, .ref o1])), (h1, .inr (2, [.ref o2, .ref h2, .ref o3, .ref o4])), (h2, .inr (0, [.int 0, .ref z.1, .int 0]))] [] sz z)) (va_Qv (fun (_ : Unit) => True) (fun (_ : Unit) (t : State) => PG (dC, dI) [(h0, .inr (6, [.ref h1, .ref o0, .ref o1])), (h1, .inr (2, [.ref o2, .ref h2, .ref o3, .ref o4])), (h2, .inr (0, [.int 0, .ref z.1, .int 0]))] [] (va_A [(h0, .inr (6, [.ref h1, .ref o0, .ref o1])), (h1, .inr (2, [.ref o2, .ref h2, .ref o3, .ref o4])), (h2, .inr (0, [.int 0, .ref z.1, .int 0]))] sz) sz 0 t) (va_A [(h0, .inr (6, [.ref h1, .ref o0, .ref o1])), (h1, .inr (2, [.ref o2, .ref h2, .ref o3, .ref o4])), (h2, .inr (0, [.int 0, .ref z.1, .int 0]))] sz)) 0 0 (va_A [(h0, .inr (6, [.ref h1, .ref o0, .ref o1])), (h1, .inr (2, [.ref o2, .ref h2, .ref o3, .ref o4])), (h2, .inr (0, [.int 0, .ref z.1, .int 0]))] sz) := by
  refine Met.ofW (cc := cX6_requireRoomForSource) (maxL := 1) (ret := none) (by decide) rfl ?_
  intro p e s m args below meth c s₁ B hml hv
  obtain ⟨rfl, hsz, hP, hK, hD0, hX, hT⟩ := hv
  have hx := B.exec
  have hb := B.bytes
  have hr := B.returns
  have hts0 := atoms_spec (ws := .code yX6_requireRoomForSource cX6_requireRoomForSource 1 none :: wsL_law) B.pre
  have hts := xTail hts0
  have hown : s.vm.findClass RX6 = some m.cls := findClass_of_methodNamed B.named
  have hlocks := B.notSynchronized
  subst hsz
  have hD := hD0.self (sz := s.heap.size)
  generalize hAe : va_A [(h0, .inr (6, [.ref h1, .ref o0, .ref o1])), (h1, .inr (2, [.ref o2, .ref h2, .ref o3, .ref o4])), (h2, .inr (0, [.int 0, .ref z.1, .int 0]))] s.heap.size = A at hD hX ⊢
  have hA : ∀ q : Nat, s.heap.size ≤ q → A q := fun q h => by rw [← hAe]; exact Or.inr h
  have hS : va_S A s.heap s.heap [] := va_S.rf
  have hG : s.heap.size + 0 ≤ s.heap.size := Nat.le_refl _
  have hl := lv_entry ([.ref h0]) (n := 1) (Nat.le_of_ble_eq_true rfl)
  rw [lg_entry_eq]
  generalize (lg_sl ([.ref h0]) ++ List.replicate (1 - (lg_sl ([.ref h0])).length) Slot.unset).toArray = ls at hl ⊢
  have hl : lv_has ls 1 [(0, .ref h0)] := hl
  refine lv_aload_n hx hb dX6_requireRoomForSource_0 rfl (lv_at hl 0 rfl) ?_
  refine va_get (D := (dC, dI)) (ci := 6) (v := .ref h1) (C := RX6) (T := TX6) (N := 3) hx hb hts in_X6 hown hK hP 0 rfl rfl 0 (by decide) (hts _ q_34) (fun _ h9 => h9) rfl dX6_requireRoomForSource_1 ?_
  refine va_get (D := (dC, dI)) (ci := 2) (v := .ref h2) (C := RX0) (T := TX0) (N := 4) hx hb hts in_X0 hown hK hP 1 rfl rfl 1 (by decide) (hts _ q_73) (fun _ h9 => h9) rfl dX6_requireRoomForSource_4 ?_
  have hF1 := va_free (wc := [(h2, .inr (0, [.int 0, .ref z.1, .int 0]))]) hD hS hA [2] rfl
  refine va_calli (va_runV (As := []) (rest := []) ⟨hx, hb, hml, hown, hts⟩ (k9_size l hl9 dC dI z h2 s.heap.size 0 0) (cwV 0 hts (gV q_76 q_77 q_78 q_12 q_75) rfl rfl rfl (by decide +kernel) ⟨Nat.le_of_ble_eq_true rfl, Nat.le_of_ble_eq_true rfl⟩) ⟨pc_blind, va_recv hK hP (ci := 0) (q0 := 2) rfl rfl, fun U hU hW => ⟨rfl, pc_mk hP hD hK hS hX hT [2] [] rfl rfl rfl rfl hF1 hU hW⟩⟩ rfl rfl hl.1 rfl (lv_room (Nat.le_of_ble_eq_true rfl)) dX6_requireRoomForSource_7 ⟨(Nat.le_of_ble_eq_true rfl), (Nat.le_of_ble_eq_true rfl)⟩) hS (fun q9 _ h9 => hF1 q9 h9) hF1 (fun r4 u3 t3 H3 L3 ht3 hvm3 hw3 hB3 hz3 hk3 hS => ?_)
  obtain ⟨hP, hD, hK⟩ := pq_join (wr := [(h0, .inr (6, [.ref h1, .ref o0, .ref o1])), (h1, .inr (2, [.ref o2, .ref h2, .ref o3, .ref o4]))]) (tr := []) (wz := [(h0, .inr (6, [.ref h1, .ref o0, .ref o1])), (h1, .inr (2, [.ref o2, .ref h2, .ref o3, .ref o4])), (h2, .inr (0, [.int 0, .ref z.1, .int 0]))]) (tz := []) hP hD hK [2] [0, 1] [] rfl rfl (by decide) (by decide) rfl hk3 hF1 hB3.1 ht3 hvm3 rfl rfl
  have hG : s.heap.size + 0 ≤ H3.size := Nat.le_trans hG hz3
  refine W.eq (g2 := F0 m 10 ls [.int 0]) (by rw [hw3]) ?_
  refine lv_bipush (v := 8) hx hb dX6_requireRoomForSource_10 (by decide) ?_
  refine lv_icmp_lt (tgt := 26) hx hb dX6_requireRoomForSource_12 (by decide) (fun _ => ?_) (fun cz => absurd (by decide) cz)
  exact W.vret hx hb hr (fun t9 ht9 hW9 => ⟨⟨(), rfl, trivial, ⟨pq_mk (wc := [(h0, .inr (6, [.ref h1, .ref o0, .ref o1])), (h1, .inr (2, [.ref o2, .ref h2, .ref o3, .ref o4])), (h2, .inr (0, [.int 0, .ref z.1, .int 0]))]) (tc := []) hP hD hK [0, 1, 2] [] rfl rfl rfl rfl ht9 hW9, by rw [ht9]; exact Nat.le_trans (Nat.add_le_add_left (Nat.le_of_ble_eq_true rfl) _) hG⟩⟩, hS.F ht9⟩) hS.2.2 dX6_requireRoomForSource_26

set_option maxHeartbeats 4000000 in
set_option maxRecDepth 100000 in
theorem k11_requireRoomForNet (l : Launch) (hl9 : l.stackTraces = false) (dC : Nat → ClassId) (dI : Nat → Nat → Nat) (z : XZ) (h0 h1 h2 : Nat) (o0 o1 o2 o3 o4 : Nat) (sz : Nat) : Met l yX6_requireRoomForNet (.code yX6_requireRoomForNet cX6_requireRoomForNet 1 none :: wsL_law) ({ frames := 1, cells := 0, slots := 0, locals := 20 }) (va_Pc [.ref h0] (PC (dC, dI) [(h0, .inr (6, [.ref h1, .ref o0, .ref o1])), (h1, .inr (2, [.ref h2, .ref o2, .ref o3, .ref o4])), (h2, .inr (0, [.int 0, .ref z.1, .int 0]))] [] sz z)) (va_Qv (fun (_ : Unit) => True) (fun (_ : Unit) (t : State) => PG (dC, dI) [(h0, .inr (6, [.ref h1, .ref o0, .ref o1])), (h1, .inr (2, [.ref h2, .ref o2, .ref o3, .ref o4])), (h2, .inr (0, [.int 0, .ref z.1, .int 0]))] [] (va_A [(h0, .inr (6, [.ref h1, .ref o0, .ref o1])), (h1, .inr (2, [.ref h2, .ref o2, .ref o3, .ref o4])), (h2, .inr (0, [.int 0, .ref z.1, .int 0]))] sz) sz 0 t) (va_A [(h0, .inr (6, [.ref h1, .ref o0, .ref o1])), (h1, .inr (2, [.ref h2, .ref o2, .ref o3, .ref o4])), (h2, .inr (0, [.int 0, .ref z.1, .int 0]))] sz)) 0 0 (va_A [(h0, .inr (6, [.ref h1, .ref o0, .ref o1])), (h1, .inr (2, [.ref h2, .ref o2, .ref o3, .ref o4])), (h2, .inr (0, [.int 0, .ref z.1, .int 0]))] sz) := by
  refine Met.ofW (cc := cX6_requireRoomForNet) (maxL := 1) (ret := none) (by decide) rfl ?_
  intro p e s m args below meth c s₁ B hml hv
  obtain ⟨rfl, hsz, hP, hK, hD0, hX, hT⟩ := hv
  have hx := B.exec
  have hb := B.bytes
  have hr := B.returns
  have hts0 := atoms_spec (ws := .code yX6_requireRoomForNet cX6_requireRoomForNet 1 none :: wsL_law) B.pre
  have hts := xTail hts0
  have hown : s.vm.findClass RX6 = some m.cls := findClass_of_methodNamed B.named
  have hlocks := B.notSynchronized
  subst hsz
  have hD := hD0.self (sz := s.heap.size)
  generalize hAe : va_A [(h0, .inr (6, [.ref h1, .ref o0, .ref o1])), (h1, .inr (2, [.ref h2, .ref o2, .ref o3, .ref o4])), (h2, .inr (0, [.int 0, .ref z.1, .int 0]))] s.heap.size = A at hD hX ⊢
  have hA : ∀ q : Nat, s.heap.size ≤ q → A q := fun q h => by rw [← hAe]; exact Or.inr h
  have hS : va_S A s.heap s.heap [] := va_S.rf
  have hG : s.heap.size + 0 ≤ s.heap.size := Nat.le_refl _
  have hl := lv_entry ([.ref h0]) (n := 1) (Nat.le_of_ble_eq_true rfl)
  rw [lg_entry_eq]
  generalize (lg_sl ([.ref h0]) ++ List.replicate (1 - (lg_sl ([.ref h0])).length) Slot.unset).toArray = ls at hl ⊢
  have hl : lv_has ls 1 [(0, .ref h0)] := hl
  refine lv_aload_n hx hb dX6_requireRoomForNet_0 rfl (lv_at hl 0 rfl) ?_
  refine va_get (D := (dC, dI)) (ci := 6) (v := .ref h1) (C := RX6) (T := TX6) (N := 3) hx hb hts in_X6 hown hK hP 0 rfl rfl 0 (by decide) (hts _ q_34) (fun _ h9 => h9) rfl dX6_requireRoomForNet_1 ?_
  refine va_get (D := (dC, dI)) (ci := 2) (v := .ref h2) (C := RX0) (T := TX0) (N := 4) hx hb hts in_X0 hown hK hP 1 rfl rfl 0 (by decide) (hts _ q_83) (fun _ h9 => h9) rfl dX6_requireRoomForNet_4 ?_
  have hF1 := va_free (wc := [(h2, .inr (0, [.int 0, .ref z.1, .int 0]))]) hD hS hA [2] rfl
  refine va_calli (va_runV (As := []) (rest := []) ⟨hx, hb, hml, hown, hts⟩ (k9_size l hl9 dC dI z h2 s.heap.size 0 0) (cwV 0 hts (gV q_76 q_77 q_78 q_12 q_75) rfl rfl rfl (by decide +kernel) ⟨Nat.le_of_ble_eq_true rfl, Nat.le_of_ble_eq_true rfl⟩) ⟨pc_blind, va_recv hK hP (ci := 0) (q0 := 2) rfl rfl, fun U hU hW => ⟨rfl, pc_mk hP hD hK hS hX hT [2] [] rfl rfl rfl rfl hF1 hU hW⟩⟩ rfl rfl hl.1 rfl (lv_room (Nat.le_of_ble_eq_true rfl)) dX6_requireRoomForNet_7 ⟨(Nat.le_of_ble_eq_true rfl), (Nat.le_of_ble_eq_true rfl)⟩) hS (fun q9 _ h9 => hF1 q9 h9) hF1 (fun r4 u3 t3 H3 L3 ht3 hvm3 hw3 hB3 hz3 hk3 hS => ?_)
  obtain ⟨hP, hD, hK⟩ := pq_join (wr := [(h0, .inr (6, [.ref h1, .ref o0, .ref o1])), (h1, .inr (2, [.ref h2, .ref o2, .ref o3, .ref o4]))]) (tr := []) (wz := [(h0, .inr (6, [.ref h1, .ref o0, .ref o1])), (h1, .inr (2, [.ref h2, .ref o2, .ref o3, .ref o4])), (h2, .inr (0, [.int 0, .ref z.1, .int 0]))]) (tz := []) hP hD hK [2] [0, 1] [] rfl rfl (by decide) (by decide) rfl hk3 hF1 hB3.1 ht3 hvm3 rfl rfl
  have hG : s.heap.size + 0 ≤ H3.size := Nat.le_trans hG hz3
  refine W.eq (g2 := F0 m 10 ls [.int 0]) (by rw [hw3]) ?_
  refine lv_bipush (v := 40) hx hb dX6_requireRoomForNet_10 (by decide) ?_
  refine lv_icmp_lt (tgt := 26) hx hb dX6_requireRoomForNet_12 (by decide) (fun _ => ?_) (fun cz => absurd (by decide) cz)
  exact W.vret hx hb hr (fun t9 ht9 hW9 => ⟨⟨(), rfl, trivial, ⟨pq_mk (wc := [(h0, .inr (6, [.ref h1, .ref o0, .ref o1])), (h1, .inr (2, [.ref h2, .ref o2, .ref o3, .ref o4])), (h2, .inr (0, [.int 0, .ref z.1, .int 0]))]) (tc := []) hP hD hK [0, 1, 2] [] rfl rfl rfl rfl ht9 hW9, by rw [ht9]; exact Nat.le_trans (Nat.add_le_add_left (Nat.le_of_ble_eq_true rfl) _) hG⟩⟩, hS.F ht9⟩) hS.2.2 dX6_requireRoomForNet_26

set_option maxHeartbeats 4000000 in
set_option maxRecDepth 100000 in
theorem k12_init (l : Launch) (hl9 : l.stackTraces = false) (dC : Nat → ClassId) (dI : Nat → Nat → Nat) (z : XZ) (h0 : Nat) (sz : Nat) : Met l yX2_init (.code yX2_init cX2_init 3 none :: wsL_law) ({ frames := 4, cells := 1, slots := 3, locals := 76 }) (va_Pc [.ref h0, .int 0, .ref (z.2.1 0)] (PC (dC, dI) [(h0, .inr (3, [.int 0, .null, .null, .null, .int 0, .int 0, .int 0, .int 0, .int 0, .int 0, .int 0, .int 0, .int 0, .int 0, .int 0, .int 0, .null, .int 0, .int 0]))] [] sz z)) (va_Qv (fun (_ : Unit) => True) (fun (_ : Unit) (t : State) => ∃ (n0 : Nat), PG (dC, dI) [(h0, .inr (3, [.int 0, .ref (z.2.1 0), .ref n0, .null, .int 0, .int 0, .int 120, .int 120, .int 0, .int 0, .int 0, .int 120, .int 120, .int 0, .int 0, .int 0, .ref h0, .int 0, .int 0])), (n0, .inr (0, [.int 0, .ref z.1, .int 0]))] [] (va_A [(h0, .inr (3, [.int 0, .null, .null, .null, .int 0, .int 0, .int 0, .int 0, .int 0, .int 0, .int 0, .int 0, .int 0, .int 0, .int 0, .int 0, .null, .int 0, .int 0]))] sz) sz 1 t) (va_A [(h0, .inr (3, [.int 0, .null, .null, .null, .int 0, .int 0, .int 0, .int 0, .int 0, .int 0, .int 0, .int 0, .int 0, .int 0, .int 0, .int 0, .null, .int 0, .int 0]))] sz)) 1 3 (va_A [(h0, .inr (3, [.int 0, .null, .null, .null, .int 0, .int 0, .int 0, .int 0, .int 0, .int 0, .int 0, .int 0, .int 0, .int 0, .int 0, .int 0, .null, .int 0, .int 0]))] sz) := by
  refine Met.ofW (cc := cX2_init) (maxL := 3) (ret := none) (by decide) rfl ?_
  intro p e s m args below meth c s₁ B hml hv
  obtain ⟨rfl, hsz, hP, hK, hD0, hX, hT⟩ := hv
  have hx := B.exec
  have hb := B.bytes
  have hr := B.returns
  have hts0 := atoms_spec (ws := .code yX2_init cX2_init 3 none :: wsL_law) B.pre
  have hts := xTail hts0
  have hown : s.vm.findClass RX2 = some m.cls := findClass_of_methodNamed B.named
  have hlocks := B.notSynchronized
  have hin : meth.name = "<init>" := (name_of_methodNamed B.named B.method).1
  subst hsz
  have hD := hD0.self (sz := s.heap.size)
  generalize hAe : va_A [(h0, .inr (3, [.int 0, .null, .null, .null, .int 0, .int 0, .int 0, .int 0, .int 0, .int 0, .int 0, .int 0, .int 0, .int 0, .int 0, .int 0, .null, .int 0, .int 0]))] s.heap.size = A at hD hX ⊢
  have hA : ∀ q : Nat, s.heap.size ≤ q → A q := fun q h => by rw [← hAe]; exact Or.inr h
  have hS : va_S A s.heap s.heap [] := va_S.rf
  have hG : s.heap.size + 0 ≤ s.heap.size := Nat.le_refl _
  have hl := lv_entry ([.ref h0, .int 0, .ref (z.2.1 0)]) (n := 3) (Nat.le_of_ble_eq_true rfl)
  rw [lg_entry_eq]
  generalize (lg_sl ([.ref h0, .int 0, .ref (z.2.1 0)]) ++ List.replicate (3 - (lg_sl ([.ref h0, .int 0, .ref (z.2.1 0)])).length) Slot.unset).toArray = ls at hl ⊢
  have hl : lv_has ls 3 [(0, .ref h0), (1, .int 0), (2, .ref (z.2.1 0))] := hl
  refine lv_aload_n hx hb dX2_init_0 rfl (lv_at hl 0 rfl) ?_
  refine W.objInit hx hb hown (hts _ q_93) (hts _ q_4) (hts _ q_5) rfl (by rw [hml]; exact hl.1) rfl dX2_init_1 (Nat.le_of_ble_eq_true rfl) (Nat.le_of_ble_eq_true rfl) ?_
  refine W.eq (g2 := F0 m 4 ls []) rfl ?_
  refine lv_aload_n hx hb dX2_init_4 rfl (lv_at hl 0 rfl) ?_
  refine xa_new (ci := 0) (fs := [.int 0, .null, .int 0]) (C := RJx4a65c) (T := TJx4a65c) (N := 3) hx hb hts in_Jx4a65c tyJx4a65c tyJx4a65c_ok hown (hts _ q_94) (hts _ q_11) (hts _ q_12) hK hP hD hS hA rfl nf_Jx4a65c (Nat.le_of_ble_eq_true rfl) (Nat.le_of_ble_eq_true rfl) dX2_init_5 (fun a1 H2 hg8 hP hD hS => ?_)
  have hG : s.heap.size + 1 ≤ H2.size := by rw [hg8]; exact Nat.succ_le_succ hG
  have hP : va_P (dC, dI) xCl [(h0, .inr (3, [.int 0, .null, .null, .null, .int 0, .int 0, .int 0, .int 0, .int 0, .int 0, .int 0, .int 0, .int 0, .int 0, .int 0, .int 0, .null, .int 0, .int 0])), (a1, .inr (0, [.int 0, .null, .int 0]))] H2 := hP
  have hD : va_D A [(h0, .inr (3, [.int 0, .null, .null, .null, .int 0, .int 0, .int 0, .int 0, .int 0, .int 0, .int 0, .int 0, .int 0, .int 0, .int 0, .int 0, .null, .int 0, .int 0])), (a1, .inr (0, [.int 0, .null, .int 0]))] := hD
  refine W.widen (k := 1) (n := 3) (by decide) (by decide) ?_
  refine lv_dup hx hb dX2_init_8 rfl ?_
  have hF3 := va_free (wc := [(a1, .inr (0, [.int 0, .null, .int 0]))]) hD hS hA [1] rfl
  refine va_callv (va_runI (As := []) (rest := [.ref a1, .ref h0]) ⟨hx, hb, hml, hown, hts⟩ (k3_init l hl9 dC dI z a1 H2.size) (cwI 0 hts (gIL q_25) rfl rfl rfl (hts _ q_12) (hts _ q_95) (hts _ q_27) rfl (by decide +kernel) ⟨Nat.le_of_ble_eq_true rfl, Nat.le_of_ble_eq_true rfl⟩) ⟨pc_blind, fun U hU hW => ⟨rfl, pc_mk hP hD hK hS hX hT [1] [] rfl rfl rfl rfl hF3 hU hW⟩⟩ rfl rfl hl.1 rfl (lv_room (Nat.le_of_ble_eq_true rfl)) dX2_init_9 ⟨(Nat.le_of_ble_eq_true rfl), (Nat.le_of_ble_eq_true rfl)⟩) hS (fun q9 _ h9 => hF3 q9 h9) hF3 (fun u5 t5 H5 L5 ht5 hvm5 hw5 hB5 hz5 hk5 hS => ?_)
  obtain ⟨hP, hD, hK⟩ := pq_join (wr := [(h0, .inr (3, [.int 0, .null, .null, .null, .int 0, .int 0, .int 0, .int 0, .int 0, .int 0, .int 0, .int 0, .int 0, .int 0, .int 0, .int 0, .null, .int 0, .int 0]))]) (tr := []) (wz := [(h0, .inr (3, [.int 0, .null, .null, .null, .int 0, .int 0, .int 0, .int 0, .int 0, .int 0, .int 0, .int 0, .int 0, .int 0, .int 0, .int 0, .null, .int 0, .int 0])), (a1, .inr (0, [.int 0, .ref z.1, .int 0]))]) (tz := []) hP hD hK [1] [0] [] rfl rfl (by decide) (by decide) rfl hk5 hF3 hB5.1 ht5 hvm5 rfl rfl
  have hG : s.heap.size + 1 ≤ H5.size := Nat.le_trans hG hz5
  refine va_putF (D := (dC, dI)) (ci := 3) (v := .ref a1) (ty := .object "java/util/ArrayList") (C := RX2) (T := TX2) (N := 19) hx hb hts in_X2 tyX2 tyX2_ok nmX2 hown hK hP hD (va_Sre hS) 0 rfl rfl 2 (by decide) (hts _ q_96) (fun _ h9 => h9) rfl hin rfl (by decide +kernel) rfl rfl (Nat.le_of_ble_eq_true rfl) dX2_init_12 (fun H7 _ hP hD hS' => ?_)
  have hG : s.heap.size + 1 ≤ H7.size := Nat.le_trans hG hS'.1
  have hS := va_Str hS hS'
  have hP : va_P (dC, dI) xCl [(h0, .inr (3, [.int 0, .null, .ref a1, .null, .int 0, .int 0, .int 0, .int 0, .int 0, .int 0, .int 0, .int 0, .int 0, .int 0, .int 0, .int 0, .null, .int 0, .int 0])), (a1, .inr (0, [.int 0, .ref z.1, .int 0]))] H7 := hP
  have hD : va_D A [(h0, .inr (3, [.int 0, .null, .ref a1, .null, .int 0, .int 0, .int 0, .int 0, .int 0, .int 0, .int 0, .int 0, .int 0, .int 0, .int 0, .int 0, .null, .int 0, .int 0])), (a1, .inr (0, [.int 0, .ref z.1, .int 0]))] := hD
  refine lv_aload_n hx hb dX2_init_15 rfl (lv_at hl 0 rfl) ?_
  refine lv_iload_n hx hb dX2_init_16 rfl (lv_at hl 1 rfl) ?_
  refine va_putF (D := (dC, dI)) (ci := 3) (v := .int 0) (ty := .int) (C := RX2) (T := TX2) (N := 19) hx hb hts in_X2 tyX2 tyX2_ok nmX2 hown hK hP hD (va_Sre hS) 0 rfl rfl 0 (by decide) (hts _ q_97) (fun _ h9 => h9) rfl hin rfl (by decide +kernel) rfl rfl (Nat.le_of_ble_eq_true rfl) dX2_init_17 (fun H8 _ hP hD hS' => ?_)
  have hG : s.heap.size + 1 ≤ H8.size := Nat.le_trans hG hS'.1
  have hS := va_Str hS hS'
  have hP : va_P (dC, dI) xCl [(h0, .inr (3, [.int 0, .null, .ref a1, .null, .int 0, .int 0, .int 0, .int 0, .int 0, .int 0, .int 0, .int 0, .int 0, .int 0, .int 0, .int 0, .null, .int 0, .int 0])), (a1, .inr (0, [.int 0, .ref z.1, .int 0]))] H8 := hP
  have hD : va_D A [(h0, .inr (3, [.int 0, .null, .ref a1, .null, .int 0, .int 0, .int 0, .int 0, .int 0, .int 0, .int 0, .int 0, .int 0, .int 0, .int 0, .int 0, .null, .int 0, .int 0])), (a1, .inr (0, [.int 0, .ref z.1, .int 0]))] := hD
  refine lv_aload_n hx hb dX2_init_20 rfl (lv_at hl 0 rfl) ?_
  refine lv_aload_n hx hb dX2_init_21 rfl (lv_at hl 2 rfl) ?_
  refine va_putF (D := (dC, dI)) (ci := 3) (v := .ref (z.2.1 0)) (ty := .object "Deltacycle$NetKind") (C := RX2) (T := TX2) (N := 19) hx hb hts in_X2 tyX2 tyX2_ok nmX2 hown hK hP hD (va_Sre hS) 0 rfl rfl 1 (by decide) (hts _ q_98) (fun _ h9 => h9) rfl hin rfl (by decide +kernel) rfl rfl (Nat.le_of_ble_eq_true rfl) dX2_init_22 (fun H9 _ hP hD hS' => ?_)
  have hG : s.heap.size + 1 ≤ H9.size := Nat.le_trans hG hS'.1
  have hS := va_Str hS hS'
  have hP : va_P (dC, dI) xCl [(h0, .inr (3, [.int 0, .ref (z.2.1 0), .ref a1, .null, .int 0, .int 0, .int 0, .int 0, .int 0, .int 0, .int 0, .int 0, .int 0, .int 0, .int 0, .int 0, .null, .int 0, .int 0])), (a1, .inr (0, [.int 0, .ref z.1, .int 0]))] H9 := hP
  have hD : va_D A [(h0, .inr (3, [.int 0, .ref (z.2.1 0), .ref a1, .null, .int 0, .int 0, .int 0, .int 0, .int 0, .int 0, .int 0, .int 0, .int 0, .int 0, .int 0, .int 0, .null, .int 0, .int 0])), (a1, .inr (0, [.int 0, .ref z.1, .int 0]))] := hD
  refine lv_aload_n hx hb dX2_init_25 rfl (lv_at hl 0 rfl) ?_
  refine lv_bipush (v := 120) hx hb dX2_init_26 (by decide) ?_
  refine va_put (D := (dC, dI)) (ci := 3) (v := .int 120) (ty := .char) (C := RX2) (T := TX2) (N := 19) hx hb hts in_X2 tyX2 tyX2_ok nmX2 hown hK hP hD (va_Sre hS) 0 rfl rfl 6 (by decide) (hts _ q_99) (fun _ h9 => h9) rfl (by decide +kernel) rfl rfl (Nat.le_of_ble_eq_true rfl) dX2_init_28 (fun H10 _ hP hD hS' => ?_)
  have hG : s.heap.size + 1 ≤ H10.size := Nat.le_trans hG hS'.1
  have hS := va_Str hS hS'
  have hP : va_P (dC, dI) xCl [(h0, .inr (3, [.int 0, .ref (z.2.1 0), .ref a1, .null, .int 0, .int 0, .int 120, .int 0, .int 0, .int 0, .int 0, .int 0, .int 0, .int 0, .int 0, .int 0, .null, .int 0, .int 0])), (a1, .inr (0, [.int 0, .ref z.1, .int 0]))] H10 := hP
  have hD : va_D A [(h0, .inr (3, [.int 0, .ref (z.2.1 0), .ref a1, .null, .int 0, .int 0, .int 120, .int 0, .int 0, .int 0, .int 0, .int 0, .int 0, .int 0, .int 0, .int 0, .null, .int 0, .int 0])), (a1, .inr (0, [.int 0, .ref z.1, .int 0]))] := hD
  refine lv_aload_n hx hb dX2_init_31 rfl (lv_at hl 0 rfl) ?_
  refine lv_bipush (v := 120) hx hb dX2_init_32 (by decide) ?_
  refine va_put (D := (dC, dI)) (ci := 3) (v := .int 120) (ty := .char) (C := RX2) (T := TX2) (N := 19) hx hb hts in_X2 tyX2 tyX2_ok nmX2 hown hK hP hD (va_Sre hS) 0 rfl rfl 7 (by decide) (hts _ q_100) (fun _ h9 => h9) rfl (by decide +kernel) rfl rfl (Nat.le_of_ble_eq_true rfl) dX2_init_34 (fun H11 _ hP hD hS' => ?_)
  have hG : s.heap.size + 1 ≤ H11.size := Nat.le_trans hG hS'.1
  have hS := va_Str hS hS'
  have hP : va_P (dC, dI) xCl [(h0, .inr (3, [.int 0, .ref (z.2.1 0), .ref a1, .null, .int 0, .int 0, .int 120, .int 120, .int 0, .int 0, .int 0, .int 0, .int 0, .int 0, .int 0, .int 0, .null, .int 0, .int 0])), (a1, .inr (0, [.int 0, .ref z.1, .int 0]))] H11 := hP
  have hD : va_D A [(h0, .inr (3, [.int 0, .ref (z.2.1 0), .ref a1, .null, .int 0, .int 0, .int 120, .int 120, .int 0, .int 0, .int 0, .int 0, .int 0, .int 0, .int 0, .int 0, .null, .int 0, .int 0])), (a1, .inr (0, [.int 0, .ref z.1, .int 0]))] := hD
  refine lv_aload_n hx hb dX2_init_37 rfl (lv_at hl 0 rfl) ?_
  refine lv_bipush (v := 120) hx hb dX2_init_38 (by decide) ?_
  refine va_put (D := (dC, dI)) (ci := 3) (v := .int 120) (ty := .char) (C := RX2) (T := TX2) (N := 19) hx hb hts in_X2 tyX2 tyX2_ok nmX2 hown hK hP hD (va_Sre hS) 0 rfl rfl 11 (by decide) (hts _ q_101) (fun _ h9 => h9) rfl (by decide +kernel) rfl rfl (Nat.le_of_ble_eq_true rfl) dX2_init_40 (fun H12 _ hP hD hS' => ?_)
  have hG : s.heap.size + 1 ≤ H12.size := Nat.le_trans hG hS'.1
  have hS := va_Str hS hS'
  have hP : va_P (dC, dI) xCl [(h0, .inr (3, [.int 0, .ref (z.2.1 0), .ref a1, .null, .int 0, .int 0, .int 120, .int 120, .int 0, .int 0, .int 0, .int 120, .int 0, .int 0, .int 0, .int 0, .null, .int 0, .int 0])), (a1, .inr (0, [.int 0, .ref z.1, .int 0]))] H12 := hP
  have hD : va_D A [(h0, .inr (3, [.int 0, .ref (z.2.1 0), .ref a1, .null, .int 0, .int 0, .int 120, .int 120, .int 0, .int 0, .int 0, .int 120, .int 0, .int 0, .int 0, .int 0, .null, .int 0, .int 0])), (a1, .inr (0, [.int 0, .ref z.1, .int 0]))] := hD
  refine lv_aload_n hx hb dX2_init_43 rfl (lv_at hl 0 rfl) ?_
  refine lv_bipush (v := 120) hx hb dX2_init_44 (by decide) ?_
  refine va_put (D := (dC, dI)) (ci := 3) (v := .int 120) (ty := .char) (C := RX2) (T := TX2) (N := 19) hx hb hts in_X2 tyX2 tyX2_ok nmX2 hown hK hP hD (va_Sre hS) 0 rfl rfl 12 (by decide) (hts _ q_102) (fun _ h9 => h9) rfl (by decide +kernel) rfl rfl (Nat.le_of_ble_eq_true rfl) dX2_init_46 (fun H13 _ hP hD hS' => ?_)
  have hG : s.heap.size + 1 ≤ H13.size := Nat.le_trans hG hS'.1
  have hS := va_Str hS hS'
  have hP : va_P (dC, dI) xCl [(h0, .inr (3, [.int 0, .ref (z.2.1 0), .ref a1, .null, .int 0, .int 0, .int 120, .int 120, .int 0, .int 0, .int 0, .int 120, .int 120, .int 0, .int 0, .int 0, .null, .int 0, .int 0])), (a1, .inr (0, [.int 0, .ref z.1, .int 0]))] H13 := hP
  have hD : va_D A [(h0, .inr (3, [.int 0, .ref (z.2.1 0), .ref a1, .null, .int 0, .int 0, .int 120, .int 120, .int 0, .int 0, .int 0, .int 120, .int 120, .int 0, .int 0, .int 0, .null, .int 0, .int 0])), (a1, .inr (0, [.int 0, .ref z.1, .int 0]))] := hD
  refine lv_aload_n hx hb dX2_init_49 rfl (lv_at hl 0 rfl) ?_
  refine lv_aload_n hx hb dX2_init_50 rfl (lv_at hl 0 rfl) ?_
  refine va_put (D := (dC, dI)) (ci := 3) (v := .ref h0) (ty := .object "Deltacycle$Net") (C := RX2) (T := TX2) (N := 19) hx hb hts in_X2 tyX2 tyX2_ok nmX2 hown hK hP hD (va_Sre hS) 0 rfl rfl 16 (by decide) (hts _ q_103) (fun _ h9 => h9) rfl (by decide +kernel) rfl rfl (Nat.le_of_ble_eq_true rfl) dX2_init_51 (fun H14 _ hP hD hS' => ?_)
  have hG : s.heap.size + 1 ≤ H14.size := Nat.le_trans hG hS'.1
  have hS := va_Str hS hS'
  have hP : va_P (dC, dI) xCl [(h0, .inr (3, [.int 0, .ref (z.2.1 0), .ref a1, .null, .int 0, .int 0, .int 120, .int 120, .int 0, .int 0, .int 0, .int 120, .int 120, .int 0, .int 0, .int 0, .ref h0, .int 0, .int 0])), (a1, .inr (0, [.int 0, .ref z.1, .int 0]))] H14 := hP
  have hD : va_D A [(h0, .inr (3, [.int 0, .ref (z.2.1 0), .ref a1, .null, .int 0, .int 0, .int 120, .int 120, .int 0, .int 0, .int 0, .int 120, .int 120, .int 0, .int 0, .int 0, .ref h0, .int 0, .int 0])), (a1, .inr (0, [.int 0, .ref z.1, .int 0]))] := hD
  exact W.vret hx hb hr (fun t9 ht9 hW9 => ⟨⟨(), rfl, trivial, ⟨a1, ⟨pq_mk (wc := [(h0, .inr (3, [.int 0, .ref (z.2.1 0), .ref a1, .null, .int 0, .int 0, .int 120, .int 120, .int 0, .int 0, .int 0, .int 120, .int 120, .int 0, .int 0, .int 0, .ref h0, .int 0, .int 0])), (a1, .inr (0, [.int 0, .ref z.1, .int 0]))]) (tc := []) hP hD hK [0, 1] [] rfl rfl rfl rfl ht9 hW9, by rw [ht9]; exact Nat.le_trans (Nat.add_le_add_left (Nat.le_of_ble_eq_true rfl) _) hG⟩⟩⟩, hS.F ht9⟩) hS.2.2 dX2_init_54

set_option maxHeartbeats 4000000 in
set_option maxRecDepth 100000 in
theorem k13_grow (l : Launch) (hl9 : l.stackTraces = false) (dC : Nat → ClassId) (dI : Nat → Nat → Nat) (z : XZ) (h0 : Nat) (sz : Nat) : Met l yJx4a65c_grow_92f84 (.code yJx4a65c_grow_92f84 cJx4a65c_grow_92f84 4 (some (.array (.object "java/lang/Object"))) :: wsL_law) ({ frames := 1, cells := 1, slots := 10, locals := 22 }) (va_Pc [.ref h0, .int 1] (PC (dC, dI) [(h0, .inr (0, [.int 1, .ref z.1, .int 0]))] [] sz z)) (va_Qr (fun (_ : Unit) => True) (fun (_ : Unit) (ra : Nat) (t : State) => ∃ (n0 : Nat), ∃ (m0 : ClassId), ra = n0 ∧ PG (dC, dI) [(h0, .inr (0, [.int 1, .ref n0, .int 0])), (n0, .inl (m0, 10, .inr (.inr (.inr (.inr (fun _ => none))))))] [(m0, .object "java/lang/Object")] (va_A [(h0, .inr (0, [.int 1, .ref z.1, .int 0]))] sz) sz 1 t) (va_A [(h0, .inr (0, [.int 1, .ref z.1, .int 0]))] sz)) 1 10 (va_A [(h0, .inr (0, [.int 1, .ref z.1, .int 0]))] sz) := by
  refine Met.ofW (cc := cJx4a65c_grow_92f84) (maxL := 4) (ret := (some (.array (.object "java/lang/Object")))) (by decide) rfl ?_
  intro p e s m args below meth c s₁ B hml hv
  obtain ⟨rfl, hsz, hP, hK, hD0, hX, hT⟩ := hv
  have hx := B.exec
  have hb := B.bytes
  have hr := B.returns
  have hts0 := atoms_spec (ws := .code yJx4a65c_grow_92f84 cJx4a65c_grow_92f84 4 (some (.array (.object "java/lang/Object"))) :: wsL_law) B.pre
  have hts := xTail hts0
  have hown : s.vm.findClass RJx4a65c = some m.cls := findClass_of_methodNamed B.named
  have hlocks := B.notSynchronized
  subst hsz
  have hD := hD0.self (sz := s.heap.size)
  generalize hAe : va_A [(h0, .inr (0, [.int 1, .ref z.1, .int 0]))] s.heap.size = A at hD hX ⊢
  have hA : ∀ q : Nat, s.heap.size ≤ q → A q := fun q h => by rw [← hAe]; exact Or.inr h
  have hS : va_S A s.heap s.heap [] := va_S.rf
  have hG : s.heap.size + 0 ≤ s.heap.size := Nat.le_refl _
  have hl := lv_entry ([.ref h0, .int 1]) (n := 4) (Nat.le_of_ble_eq_true rfl)
  rw [lg_entry_eq]
  generalize (lg_sl ([.ref h0, .int 1]) ++ List.replicate (4 - (lg_sl ([.ref h0, .int 1])).length) Slot.unset).toArray = ls at hl ⊢
  have hl : lv_has ls 4 [(0, .ref h0), (1, .int 1)] := hl
  refine lv_aload_n hx hb dJx4a65c_grow_92f84_0 rfl (lv_at hl 0 rfl) ?_
  refine va_get (D := (dC, dI)) (ci := 0) (v := .ref z.1) (C := RJx4a65c) (T := TJx4a65c) (N := 3) hx hb hts in_Jx4a65c hown hK hP 0 rfl rfl 1 (by decide) (hts _ q_24) (fun _ h9 => h9) rfl dJx4a65c_grow_92f84_1 ?_
  refine va_tlen hx hb hX.1.2 hS (v := 0) rfl dJx4a65c_grow_92f84_4 ?_
  refine lv_istore_n (lv' := [(2, .int 0), (0, .ref h0), (1, .int 1)]) hx hb dJx4a65c_grow_92f84_5 rfl hl (by decide) rfl (fun ls hl => ?_)
  refine lv_iload_n hx hb dJx4a65c_grow_92f84_6 rfl (lv_at hl 0 rfl) ?_
  refine lv_if_gt (tgt := 20) hx hb dJx4a65c_grow_92f84_7 (by decide) (fun cz => absurd cz (by decide)) (fun _ => ?_)
  refine lv_aload_n hx hb dJx4a65c_grow_92f84_10 rfl (lv_at hl 1 rfl) ?_
  refine va_get (D := (dC, dI)) (ci := 0) (v := .ref z.1) (C := RJx4a65c) (T := TJx4a65c) (N := 3) hx hb hts in_Jx4a65c hown hK hP 0 rfl rfl 1 (by decide) (hts _ q_24) (fun _ h9 => h9) rfl dJx4a65c_grow_92f84_11 ?_
  refine va_gets (own := RJx4a65c) (ref := "java/util/ArrayList") hx hb hX.1.1 hS hown (hts _ q_23) (fun _ h9 => h9) dJx4a65c_grow_92f84_14 ?_
  refine lv_acmp_eq (rx := (some z.1)) (ry := (some z.1)) (tgt := 45) hx hb dJx4a65c_grow_92f84_17 (by decide) (fun _ => ?_) (fun cz => absurd rfl cz)
  refine lv_aload_n hx hb dJx4a65c_grow_92f84_45 rfl (lv_at hl 1 rfl) ?_
  refine lv_bipush (v := 10) hx hb dJx4a65c_grow_92f84_46 (by decide) ?_
  refine lv_iload_n hx hb dJx4a65c_grow_92f84_48 rfl (lv_at hl 2 rfl) ?_
  refine va_mmax hx hb (hml.trans hl.1.symm) hown (hts _ q_109) (hts _ q_110) (hts _ q_111) (hts _ q_112) (Nat.le_of_ble_eq_true rfl) (Nat.le_of_ble_eq_true rfl) (Nat.le_of_ble_eq_true rfl) (Nat.le_of_ble_eq_true rfl) dJx4a65c_grow_92f84_49 ?_
  refine lv_topi (fun y1 ey1 => ?_)
  obtain rfl : y1 = 10 := ey1.trans (by decide)
  refine xa_newq (C := "java/lang/Object") hx hb hown (hts _ q_113) hT.2.2.2.1 hK hP hD hS hA (n := 10) (N' := 10) (by decide) (by decide) (Nat.le_of_ble_eq_true rfl) (Nat.le_of_ble_eq_true rfl) (Nat.le_of_ble_eq_true rfl) dJx4a65c_grow_92f84_52 (fun a2 k3 H4 hg8 hK hP hD hS => ?_)
  have hG : s.heap.size + 1 ≤ H4.size := by rw [hg8]; exact Nat.succ_le_succ hG
  have hK : va_K (dC, dI) xCl [(k3, .object "java/lang/Object")] s := hK
  have hP : va_P (dC, dI) xCl [(h0, .inr (0, [.int 1, .ref z.1, .int 0])), (a2, .inl (k3, 10, .inr (.inr (.inr (.inr (fun _ => none))))))] H4 := hP
  have hD : va_D A [(h0, .inr (0, [.int 1, .ref z.1, .int 0])), (a2, .inl (k3, 10, .inr (.inr (.inr (.inr (fun _ => none))))))] := hD
  refine lv_dup_x1 hx hb dJx4a65c_grow_92f84_55 rfl rfl ?_
  refine va_put (D := (dC, dI)) (ci := 0) (v := .ref a2) (ty := .array (.object "java/lang/Object")) (C := RJx4a65c) (T := TJx4a65c) (N := 3) hx hb hts in_Jx4a65c tyJx4a65c tyJx4a65c_ok nmJx4a65c hown hK hP hD (va_Sre hS) 0 rfl rfl 1 (by decide) (hts _ q_24) (fun _ h9 => h9) rfl (by decide +kernel) rfl rfl (Nat.le_of_ble_eq_true rfl) dJx4a65c_grow_92f84_56 (fun H5 _ hP hD hS' => ?_)
  have hG : s.heap.size + 1 ≤ H5.size := Nat.le_trans hG hS'.1
  have hS := va_Str hS hS'
  have hP : va_P (dC, dI) xCl [(h0, .inr (0, [.int 1, .ref a2, .int 0])), (a2, .inl (k3, 10, .inr (.inr (.inr (.inr (fun _ => none))))))] H5 := hP
  have hD : va_D A [(h0, .inr (0, [.int 1, .ref a2, .int 0])), (a2, .inl (k3, 10, .inr (.inr (.inr (.inr (fun _ => none))))))] := hD
  exact W.aret (v := .ref a2) hx hb hr (by first | exact Or.inl ⟨_, rfl⟩ | exact Or.inr ⟨_, rfl⟩) (Or.inr ⟨_, rfl⟩) (fun t9 ht9 hW9 => ⟨⟨(), a2, rfl, trivial, ⟨a2, k3, rfl, ⟨pq_mk (wc := [(h0, .inr (0, [.int 1, .ref a2, .int 0])), (a2, .inl (k3, 10, .inr (.inr (.inr (.inr (fun _ => none))))))]) (tc := [(k3, .object "java/lang/Object")]) hP hD hK [0, 1] [0] rfl rfl rfl rfl ht9 hW9, by rw [ht9]; exact Nat.le_trans (Nat.add_le_add_left (Nat.le_of_ble_eq_true rfl) _) hG⟩⟩⟩, hS.F ht9⟩) hS.2.2 dJx4a65c_grow_92f84_59

set_option maxHeartbeats 4000000 in
set_option maxRecDepth 100000 in
theorem k14_grow (l : Launch) (hl9 : l.stackTraces = false) (dC : Nat → ClassId) (dI : Nat → Nat → Nat) (z : XZ) (h0 : Nat) (sz : Nat) : Met l yJx4a65c_grow_d5877 (.code yJx4a65c_grow_d5877 cJx4a65c_grow_d5877 1 (some (.array (.object "java/lang/Object"))) :: wsL_law) ({ frames := 2, cells := 1, slots := 10, locals := 45 }) (va_Pc [.ref h0] (PC (dC, dI) [(h0, .inr (0, [.int 1, .ref z.1, .int 0]))] [] sz z)) (va_Qr (fun (_ : Unit) => True) (fun (_ : Unit) (ra : Nat) (t : State) => ∃ (n0 : Nat), ∃ (m0 : ClassId), ra = n0 ∧ PG (dC, dI) [(h0, .inr (0, [.int 1, .ref n0, .int 0])), (n0, .inl (m0, 10, .inr (.inr (.inr (.inr (fun _ => none))))))] [(m0, .object "java/lang/Object")] (va_A [(h0, .inr (0, [.int 1, .ref z.1, .int 0]))] sz) sz 1 t) (va_A [(h0, .inr (0, [.int 1, .ref z.1, .int 0]))] sz)) 1 10 (va_A [(h0, .inr (0, [.int 1, .ref z.1, .int 0]))] sz) := by
  refine Met.ofW (cc := cJx4a65c_grow_d5877) (maxL := 1) (ret := (some (.array (.object "java/lang/Object")))) (by decide) rfl ?_
  intro p e s m args below meth c s₁ B hml hv
  obtain ⟨rfl, hsz, hP, hK, hD0, hX, hT⟩ := hv
  have hx := B.exec
  have hb := B.bytes
  have hr := B.returns
  have hts0 := atoms_spec (ws := .code yJx4a65c_grow_d5877 cJx4a65c_grow_d5877 1 (some (.array (.object "java/lang/Object"))) :: wsL_law) B.pre
  have hts := xTail hts0
  have hown : s.vm.findClass RJx4a65c = some m.cls := findClass_of_methodNamed B.named
  have hlocks := B.notSynchronized
  subst hsz
  have hD := hD0.self (sz := s.heap.size)
  generalize hAe : va_A [(h0, .inr (0, [.int 1, .ref z.1, .int 0]))] s.heap.size = A at hD hX ⊢
  have hA : ∀ q : Nat, s.heap.size ≤ q → A q := fun q h => by rw [← hAe]; exact Or.inr h
  have hS : va_S A s.heap s.heap [] := va_S.rf
  have hG : s.heap.size + 0 ≤ s.heap.size := Nat.le_refl _
  have hl := lv_entry ([.ref h0]) (n := 1) (Nat.le_of_ble_eq_true rfl)
  rw [lg_entry_eq]
  generalize (lg_sl ([.ref h0]) ++ List.replicate (1 - (lg_sl ([.ref h0])).length) Slot.unset).toArray = ls at hl ⊢
  have hl : lv_has ls 1 [(0, .ref h0)] := hl
  refine lv_aload_n hx hb dJx4a65c_grow_d5877_0 rfl (lv_at hl 0 rfl) ?_
  refine lv_aload_n hx hb dJx4a65c_grow_d5877_1 rfl (lv_at hl 0 rfl) ?_
  refine va_get (D := (dC, dI)) (ci := 0) (v := .int 0) (C := RJx4a65c) (T := TJx4a65c) (N := 3) hx hb hts in_Jx4a65c hown hK hP 0 rfl rfl 2 (by decide) (hts _ q_74) (fun _ h9 => h9) rfl dJx4a65c_grow_d5877_2 ?_
  refine lv_iconst (v := 1) hx hb dJx4a65c_grow_d5877_5 (by decide) ?_
  refine lv_iadd hx hb dJx4a65c_grow_d5877_6 ?_
  refine lv_topi (fun y1 ey1 => ?_)
  obtain rfl : y1 = 1 := ey1.trans (by decide)
  have hF2 := va_free (wc := [(h0, .inr (0, [.int 1, .ref z.1, .int 0]))]) hD hS hA [0] rfl
  refine va_callr (va_runV (As := [.int 1]) (rest := []) ⟨hx, hb, hml, hown, hts⟩ (k13_grow l hl9 dC dI z h0 s.heap.size) (cwV 1 hts (gV q_115 q_116 q_117 q_12 q_114) rfl rfl rfl (by decide +kernel) ⟨Nat.le_of_ble_eq_true rfl, Nat.le_of_ble_eq_true rfl⟩) ⟨pc_blind, va_recv hK hP (ci := 0) (q0 := 0) rfl rfl, fun U hU hW => ⟨rfl, pc_mk hP hD hK hS hX hT [0] [] rfl rfl rfl rfl hF2 hU hW⟩⟩ rfl rfl hl.1 rfl (lv_room (Nat.le_of_ble_eq_true rfl)) dJx4a65c_grow_d5877_7 ⟨(Nat.le_of_ble_eq_true rfl), (Nat.le_of_ble_eq_true rfl)⟩) hS (fun q9 _ h9 => hF2 q9 h9) hF2 (fun u4 r5 t4 H4 L4 ht4 hvm4 hw4 hB4 hz4 hk4 hS => ?_)
  obtain ⟨a6, k7, hr4, hB4⟩ := hB4
  obtain ⟨hP, hD, hK⟩ := pq_join (wr := []) (tr := []) (wz := [(h0, .inr (0, [.int 1, .ref a6, .int 0])), (a6, .inl (k7, 10, .inr (.inr (.inr (.inr (fun _ => none))))))]) (tz := [(k7, .object "java/lang/Object")]) hP hD hK [0] [] [] rfl rfl (by decide) (by decide) rfl hk4 hF2 hB4.1 ht4 hvm4 rfl rfl
  have hG : s.heap.size + 1 ≤ H4.size := va_gr (g := 0) (g1 := 1) hG (by rw [← ht4]; exact hB4.2)
  refine W.eq (g2 := F0 m 10 ls [.ref a6]) (by rw [hr4]) ?_
  refine W.widen (k := 1) (n := 10) (by decide) (by decide) ?_
  exact W.aret (v := .ref a6) hx hb hr (by first | exact Or.inl ⟨_, rfl⟩ | exact Or.inr ⟨_, rfl⟩) (Or.inr ⟨_, rfl⟩) (fun t9 ht9 hW9 => ⟨⟨(), a6, rfl, trivial, ⟨a6, k7, rfl, ⟨pq_mk (wc := [(h0, .inr (0, [.int 1, .ref a6, .int 0])), (a6, .inl (k7, 10, .inr (.inr (.inr (.inr (fun _ => none))))))]) (tc := [(k7, .object "java/lang/Object")]) hP hD hK [0, 1] [0] rfl rfl rfl rfl ht9 hW9, by rw [ht9]; exact Nat.le_trans (Nat.add_le_add_left (Nat.le_of_ble_eq_true rfl) _) hG⟩⟩⟩, hS.F ht9⟩) hS.2.2 dJx4a65c_grow_d5877_10

set_option maxHeartbeats 4000000 in
set_option maxRecDepth 100000 in
theorem k15_add (l : Launch) (hl9 : l.stackTraces = false) (dC : Nat → ClassId) (dI : Nat → Nat → Nat) (z : XZ) (h0 h1 : Nat) (o0 : Nat) (sz : Nat) : Met l yJx4a65c_add_72be8 (.code yJx4a65c_add_72be8 cJx4a65c_add_72be8 4 none :: wsL_law) ({ frames := 3, cells := 1, slots := 10, locals := 65 }) (va_Pc [.ref h0, .ref h1, .ref z.1, .int 0] (PC (dC, dI) [(h0, .inr (0, [.int 1, .ref z.1, .int 0])), (h1, .inr (3, [.int 0, .ref (z.2.1 0), .ref o0, .null, .int 0, .int 0, .int 120, .int 120, .int 0, .int 0, .int 0, .int 120, .int 120, .int 0, .int 0, .int 0, .ref h1, .int 0, .int 0]))] [] sz z)) (va_Qv (fun (_ : Unit) => True) (fun (_ : Unit) (t : State) => ∃ (n0 : Nat), ∃ (m0 : ClassId), PG (dC, dI) [(h0, .inr (0, [.int 1, .ref n0, .int 1])), (h1, .inr (3, [.int 0, .ref (z.2.1 0), .ref o0, .null, .int 0, .int 0, .int 120, .int 120, .int 0, .int 0, .int 0, .int 120, .int 120, .int 0, .int 0, .int 0, .ref h1, .int 0, .int 0])), (n0, .inl (m0, 10, .inr (.inr (.inr (.inr (va_up (fun _ => none) 0 (some h1)))))))] [(m0, .object "java/lang/Object")] (va_A [(h0, .inr (0, [.int 1, .ref z.1, .int 0])), (h1, .inr (3, [.int 0, .ref (z.2.1 0), .ref o0, .null, .int 0, .int 0, .int 120, .int 120, .int 0, .int 0, .int 0, .int 120, .int 120, .int 0, .int 0, .int 0, .ref h1, .int 0, .int 0]))] sz) sz 1 t) (va_A [(h0, .inr (0, [.int 1, .ref z.1, .int 0])), (h1, .inr (3, [.int 0, .ref (z.2.1 0), .ref o0, .null, .int 0, .int 0, .int 120, .int 120, .int 0, .int 0, .int 0, .int 120, .int 120, .int 0, .int 0, .int 0, .ref h1, .int 0, .int 0]))] sz)) 1 10 (va_A [(h0, .inr (0, [.int 1, .ref z.1, .int 0])), (h1, .inr (3, [.int 0, .ref (z.2.1 0), .ref o0, .null, .int 0, .int 0, .int 120, .int 120, .int 0, .int 0, .int 0, .int 120, .int 120, .int 0, .int 0, .int 0, .ref h1, .int 0, .int 0]))] sz) := by
  refine Met.ofW (cc := cJx4a65c_add_72be8) (maxL := 4) (ret := none) (by decide) rfl ?_
  intro p e s m args below meth c s₁ B hml hv
  obtain ⟨rfl, hsz, hP, hK, hD0, hX, hT⟩ := hv
  have hx := B.exec
  have hb := B.bytes
  have hr := B.returns
  have hts0 := atoms_spec (ws := .code yJx4a65c_add_72be8 cJx4a65c_add_72be8 4 none :: wsL_law) B.pre
  have hts := xTail hts0
  have hown : s.vm.findClass RJx4a65c = some m.cls := findClass_of_methodNamed B.named
  have hlocks := B.notSynchronized
  subst hsz
  have hD := hD0.self (sz := s.heap.size)
  generalize hAe : va_A [(h0, .inr (0, [.int 1, .ref z.1, .int 0])), (h1, .inr (3, [.int 0, .ref (z.2.1 0), .ref o0, .null, .int 0, .int 0, .int 120, .int 120, .int 0, .int 0, .int 0, .int 120, .int 120, .int 0, .int 0, .int 0, .ref h1, .int 0, .int 0]))] s.heap.size = A at hD hX ⊢
  have hA : ∀ q : Nat, s.heap.size ≤ q → A q := fun q h => by rw [← hAe]; exact Or.inr h
  have hS : va_S A s.heap s.heap [] := va_S.rf
  have hG : s.heap.size + 0 ≤ s.heap.size := Nat.le_refl _
  have hl := lv_entry ([.ref h0, .ref h1, .ref z.1, .int 0]) (n := 4) (Nat.le_of_ble_eq_true rfl)
  rw [lg_entry_eq]
  generalize (lg_sl ([.ref h0, .ref h1, .ref z.1, .int 0]) ++ List.replicate (4 - (lg_sl ([.ref h0, .ref h1, .ref z.1, .int 0])).length) Slot.unset).toArray = ls at hl ⊢
  have hl : lv_has ls 4 [(0, .ref h0), (1, .ref h1), (2, .ref z.1), (3, .int 0)] := hl
  refine lv_iload_n hx hb dJx4a65c_add_72be8_0 rfl (lv_at hl 3 rfl) ?_
  refine lv_aload_n hx hb dJx4a65c_add_72be8_1 rfl (lv_at hl 2 rfl) ?_
  refine va_tlen hx hb hX.1.2 hS (v := 0) rfl dJx4a65c_add_72be8_2 ?_
  refine lv_icmp_ne (tgt := 11) hx hb dJx4a65c_add_72be8_3 (by decide) (fun cz => absurd (by decide) cz) (fun _ => ?_)
  refine lv_aload_n hx hb dJx4a65c_add_72be8_6 rfl (lv_at hl 0 rfl) ?_
  have hF1 := va_free (wc := [(h0, .inr (0, [.int 1, .ref z.1, .int 0]))]) hD hS hA [0] rfl
  refine va_callr (va_runV (As := []) (rest := []) ⟨hx, hb, hml, hown, hts⟩ (k14_grow l hl9 dC dI z h0 s.heap.size) (cwV 0 hts (gV q_119 q_120 q_121 q_12 q_118) rfl rfl rfl (by decide +kernel) ⟨Nat.le_of_ble_eq_true rfl, Nat.le_of_ble_eq_true rfl⟩) ⟨pc_blind, va_recv hK hP (ci := 0) (q0 := 0) rfl rfl, fun U hU hW => ⟨rfl, pc_mk hP hD hK hS hX hT [0] [] rfl rfl rfl rfl hF1 hU hW⟩⟩ rfl rfl hl.1 rfl (lv_room (Nat.le_of_ble_eq_true rfl)) dJx4a65c_add_72be8_7 ⟨(Nat.le_of_ble_eq_true rfl), (Nat.le_of_ble_eq_true rfl)⟩) hS (fun q9 _ h9 => hF1 q9 h9) hF1 (fun u3 r4 t3 H3 L3 ht3 hvm3 hw3 hB3 hz3 hk3 hS => ?_)
  obtain ⟨a5, k6, hr3, hB3⟩ := hB3
  obtain ⟨hP, hD, hK⟩ := pq_join (wr := [(h1, .inr (3, [.int 0, .ref (z.2.1 0), .ref o0, .null, .int 0, .int 0, .int 120, .int 120, .int 0, .int 0, .int 0, .int 120, .int 120, .int 0, .int 0, .int 0, .ref h1, .int 0, .int 0]))]) (tr := []) (wz := [(h1, .inr (3, [.int 0, .ref (z.2.1 0), .ref o0, .null, .int 0, .int 0, .int 120, .int 120, .int 0, .int 0, .int 0, .int 120, .int 120, .int 0, .int 0, .int 0, .ref h1, .int 0, .int 0])), (h0, .inr (0, [.int 1, .ref a5, .int 0])), (a5, .inl (k6, 10, .inr (.inr (.inr (.inr (fun _ => none))))))]) (tz := [(k6, .object "java/lang/Object")]) hP hD hK [0] [1] [] rfl rfl (by decide) (by decide) rfl hk3 hF1 hB3.1 ht3 hvm3 rfl rfl
  have hG : s.heap.size + 1 ≤ H3.size := va_gr (g := 0) (g1 := 1) hG (by rw [← ht3]; exact hB3.2)
  refine W.eq (g2 := F0 m 10 ls [.ref a5]) (by rw [hr3]) ?_
  refine W.widen (k := 1) (n := 10) (by decide) (by decide) ?_
  refine lv_astore_n (lv' := [(2, .ref a5), (0, .ref h0), (1, .ref h1), (3, .int 0)]) hx hb dJx4a65c_add_72be8_10 rfl hl (by decide) rfl (fun ls hl => ?_)
  refine lv_aload_n hx hb dJx4a65c_add_72be8_11 rfl (lv_at hl 0 rfl) ?_
  refine lv_iload_n hx hb dJx4a65c_add_72be8_12 rfl (lv_at hl 3 rfl) ?_
  refine lv_aload_n hx hb dJx4a65c_add_72be8_13 rfl (lv_at hl 2 rfl) ?_
  refine vb_astq (E := "java/lang/Object") (C := RX2) hx hb hK hP hD (va_Sre hS) 2 0 rfl rfl (va_recv hK hP (ci := 3) (q0 := 0) rfl rfl) (vb_asgC (hT.2.1.1 (RX2, "java/lang/Object") (by decide))) (i := 0) (by unfold vp_in; decide) dJx4a65c_add_72be8_14 (fun H7 _ hP hD hS' => ?_)
  have hG : s.heap.size + 1 ≤ H7.size := Nat.le_trans hG hS'.1
  have hS := va_Str hS hS'
  have hP : va_P (dC, dI) xCl [(h1, .inr (3, [.int 0, .ref (z.2.1 0), .ref o0, .null, .int 0, .int 0, .int 120, .int 120, .int 0, .int 0, .int 0, .int 120, .int 120, .int 0, .int 0, .int 0, .ref h1, .int 0, .int 0])), (h0, .inr (0, [.int 1, .ref a5, .int 0])), (a5, .inl (k6, 10, .inr (.inr (.inr (.inr (va_up (fun _ => none) 0 (some h1)))))))] H7 := hP
  have hD : va_D A [(h1, .inr (3, [.int 0, .ref (z.2.1 0), .ref o0, .null, .int 0, .int 0, .int 120, .int 120, .int 0, .int 0, .int 0, .int 120, .int 120, .int 0, .int 0, .int 0, .ref h1, .int 0, .int 0])), (h0, .inr (0, [.int 1, .ref a5, .int 0])), (a5, .inl (k6, 10, .inr (.inr (.inr (.inr (va_up (fun _ => none) 0 (some h1)))))))] := hD
  refine lv_aload_n hx hb dJx4a65c_add_72be8_15 rfl (lv_at hl 1 rfl) ?_
  refine lv_iload_n hx hb dJx4a65c_add_72be8_16 rfl (lv_at hl 3 rfl) ?_
  refine lv_iconst (v := 1) hx hb dJx4a65c_add_72be8_17 (by decide) ?_
  refine lv_iadd hx hb dJx4a65c_add_72be8_18 ?_
  refine lv_topi (fun y8 ey8 => ?_)
  obtain rfl : y8 = 1 := ey8.trans (by decide)
  refine va_put (D := (dC, dI)) (ci := 0) (v := .int 1) (ty := .int) (C := RJx4a65c) (T := TJx4a65c) (N := 3) hx hb hts in_Jx4a65c tyJx4a65c tyJx4a65c_ok nmJx4a65c hown hK hP hD (va_Sre hS) 1 rfl rfl 2 (by decide) (hts _ q_74) (fun _ h9 => h9) rfl (by decide +kernel) rfl rfl (Nat.le_of_ble_eq_true rfl) dJx4a65c_add_72be8_19 (fun H9 _ hP hD hS' => ?_)
  have hG : s.heap.size + 1 ≤ H9.size := Nat.le_trans hG hS'.1
  have hS := va_Str hS hS'
  have hP : va_P (dC, dI) xCl [(h1, .inr (3, [.int 0, .ref (z.2.1 0), .ref o0, .null, .int 0, .int 0, .int 120, .int 120, .int 0, .int 0, .int 0, .int 120, .int 120, .int 0, .int 0, .int 0, .ref h1, .int 0, .int 0])), (h0, .inr (0, [.int 1, .ref a5, .int 1])), (a5, .inl (k6, 10, .inr (.inr (.inr (.inr (va_up (fun _ => none) 0 (some h1)))))))] H9 := hP
  have hD : va_D A [(h1, .inr (3, [.int 0, .ref (z.2.1 0), .ref o0, .null, .int 0, .int 0, .int 120, .int 120, .int 0, .int 0, .int 0, .int 120, .int 120, .int 0, .int 0, .int 0, .ref h1, .int 0, .int 0])), (h0, .inr (0, [.int 1, .ref a5, .int 1])), (a5, .inl (k6, 10, .inr (.inr (.inr (.inr (va_up (fun _ => none) 0 (some h1)))))))] := hD
  exact W.vret hx hb hr (fun t9 ht9 hW9 => ⟨⟨(), rfl, trivial, ⟨a5, k6, ⟨pq_mk (wc := [(h0, .inr (0, [.int 1, .ref a5, .int 1])), (h1, .inr (3, [.int 0, .ref (z.2.1 0), .ref o0, .null, .int 0, .int 0, .int 120, .int 120, .int 0, .int 0, .int 0, .int 120, .int 120, .int 0, .int 0, .int 0, .ref h1, .int 0, .int 0])), (a5, .inl (k6, 10, .inr (.inr (.inr (.inr (va_up (fun _ => none) 0 (some h1)))))))]) (tc := [(k6, .object "java/lang/Object")]) hP hD hK [1, 0, 2] [0] rfl rfl rfl rfl ht9 hW9, by rw [ht9]; exact Nat.le_trans (Nat.add_le_add_left (Nat.le_of_ble_eq_true rfl) _) hG⟩⟩⟩, hS.F ht9⟩) hS.2.2 dJx4a65c_add_72be8_22

set_option maxHeartbeats 4000000 in
set_option maxRecDepth 100000 in
theorem k16_add (l : Launch) (hl9 : l.stackTraces = false) (dC : Nat → ClassId) (dI : Nat → Nat → Nat) (z : XZ) (h0 h1 : Nat) (o0 : Nat) (sz : Nat) : Met l yJx4a65c_add_9ea2d (.code yJx4a65c_add_9ea2d cJx4a65c_add_9ea2d 2 (some .boolean) :: wsL_law) ({ frames := 4, cells := 1, slots := 10, locals := 88 }) (va_Pc [.ref h0, .ref h1] (PC (dC, dI) [(h0, .inr (0, [.int 0, .ref z.1, .int 0])), (h1, .inr (3, [.int 0, .ref (z.2.1 0), .ref o0, .null, .int 0, .int 0, .int 120, .int 120, .int 0, .int 0, .int 0, .int 120, .int 120, .int 0, .int 0, .int 0, .ref h1, .int 0, .int 0]))] [] sz z)) (va_Qi (fun (r : Int32) (_ : Unit) => r = 1) (fun (_ : Unit) (t : State) => ∃ (n0 : Nat), ∃ (m0 : ClassId), PG (dC, dI) [(h0, .inr (0, [.int 1, .ref n0, .int 1])), (h1, .inr (3, [.int 0, .ref (z.2.1 0), .ref o0, .null, .int 0, .int 0, .int 120, .int 120, .int 0, .int 0, .int 0, .int 120, .int 120, .int 0, .int 0, .int 0, .ref h1, .int 0, .int 0])), (n0, .inl (m0, 10, .inr (.inr (.inr (.inr (va_up (fun _ => none) 0 (some h1)))))))] [(m0, .object "java/lang/Object")] (va_A [(h0, .inr (0, [.int 0, .ref z.1, .int 0])), (h1, .inr (3, [.int 0, .ref (z.2.1 0), .ref o0, .null, .int 0, .int 0, .int 120, .int 120, .int 0, .int 0, .int 0, .int 120, .int 120, .int 0, .int 0, .int 0, .ref h1, .int 0, .int 0]))] sz) sz 1 t) (va_A [(h0, .inr (0, [.int 0, .ref z.1, .int 0])), (h1, .inr (3, [.int 0, .ref (z.2.1 0), .ref o0, .null, .int 0, .int 0, .int 120, .int 120, .int 0, .int 0, .int 0, .int 120, .int 120, .int 0, .int 0, .int 0, .ref h1, .int 0, .int 0]))] sz)) 1 10 (va_A [(h0, .inr (0, [.int 0, .ref z.1, .int 0])), (h1, .inr (3, [.int 0, .ref (z.2.1 0), .ref o0, .null, .int 0, .int 0, .int 120, .int 120, .int 0, .int 0, .int 0, .int 120, .int 120, .int 0, .int 0, .int 0, .ref h1, .int 0, .int 0]))] sz) := by
  refine Met.ofW (cc := cJx4a65c_add_9ea2d) (maxL := 2) (ret := (some .boolean)) (by decide) rfl ?_
  intro p e s m args below meth c s₁ B hml hv
  obtain ⟨rfl, hsz, hP, hK, hD0, hX, hT⟩ := hv
  have hx := B.exec
  have hb := B.bytes
  have hr := B.returns
  have hts0 := atoms_spec (ws := .code yJx4a65c_add_9ea2d cJx4a65c_add_9ea2d 2 (some .boolean) :: wsL_law) B.pre
  have hts := xTail hts0
  have hown : s.vm.findClass RJx4a65c = some m.cls := findClass_of_methodNamed B.named
  have hlocks := B.notSynchronized
  subst hsz
  have hD := hD0.self (sz := s.heap.size)
  generalize hAe : va_A [(h0, .inr (0, [.int 0, .ref z.1, .int 0])), (h1, .inr (3, [.int 0, .ref (z.2.1 0), .ref o0, .null, .int 0, .int 0, .int 120, .int 120, .int 0, .int 0, .int 0, .int 120, .int 120, .int 0, .int 0, .int 0, .ref h1, .int 0, .int 0]))] s.heap.size = A at hD hX ⊢
  have hA : ∀ q : Nat, s.heap.size ≤ q → A q := fun q h => by rw [← hAe]; exact Or.inr h
  have hS : va_S A s.heap s.heap [] := va_S.rf
  have hG : s.heap.size + 0 ≤ s.heap.size := Nat.le_refl _
  have hl := lv_entry ([.ref h0, .ref h1]) (n := 2) (Nat.le_of_ble_eq_true rfl)
  rw [lg_entry_eq]
  generalize (lg_sl ([.ref h0, .ref h1]) ++ List.replicate (2 - (lg_sl ([.ref h0, .ref h1])).length) Slot.unset).toArray = ls at hl ⊢
  have hl : lv_has ls 2 [(0, .ref h0), (1, .ref h1)] := hl
  refine lv_aload_n hx hb dJx4a65c_add_9ea2d_0 rfl (lv_at hl 0 rfl) ?_
  refine lv_dup hx hb dJx4a65c_add_9ea2d_1 rfl ?_
  refine va_get (D := (dC, dI)) (ci := 0) (v := .int 0) (C := RJx4a65c) (T := TJx4a65c) (N := 3) hx hb hts in_Jx4a65c hown hK hP 0 rfl rfl 0 (by decide) (hts _ q_108) (u_same (hts _ q_107)) rfl dJx4a65c_add_9ea2d_2 ?_
  refine lv_iconst (v := 1) hx hb dJx4a65c_add_9ea2d_5 (by decide) ?_
  refine lv_iadd hx hb dJx4a65c_add_9ea2d_6 ?_
  refine lv_topi (fun y1 ey1 => ?_)
  obtain rfl : y1 = 1 := ey1.trans (by decide)
  refine va_put (D := (dC, dI)) (ci := 0) (v := .int 1) (ty := .int) (C := RJx4a65c) (T := TJx4a65c) (N := 3) hx hb hts in_Jx4a65c tyJx4a65c tyJx4a65c_ok nmJx4a65c hown hK hP hD (va_Sre hS) 0 rfl rfl 0 (by decide) (hts _ q_108) (u_same (hts _ q_107)) rfl (by decide +kernel) rfl rfl (Nat.le_of_ble_eq_true rfl) dJx4a65c_add_9ea2d_7 (fun H2 _ hP hD hS' => ?_)
  have hG : s.heap.size + 0 ≤ H2.size := Nat.le_trans hG hS'.1
  have hS := va_Str hS hS'
  have hP : va_P (dC, dI) xCl [(h0, .inr (0, [.int 1, .ref z.1, .int 0])), (h1, .inr (3, [.int 0, .ref (z.2.1 0), .ref o0, .null, .int 0, .int 0, .int 120, .int 120, .int 0, .int 0, .int 0, .int 120, .int 120, .int 0, .int 0, .int 0, .ref h1, .int 0, .int 0]))] H2 := hP
  have hD : va_D A [(h0, .inr (0, [.int 1, .ref z.1, .int 0])), (h1, .inr (3, [.int 0, .ref (z.2.1 0), .ref o0, .null, .int 0, .int 0, .int 120, .int 120, .int 0, .int 0, .int 0, .int 120, .int 120, .int 0, .int 0, .int 0, .ref h1, .int 0, .int 0]))] := hD
  refine lv_aload_n hx hb dJx4a65c_add_9ea2d_10 rfl (lv_at hl 0 rfl) ?_
  refine lv_aload_n hx hb dJx4a65c_add_9ea2d_11 rfl (lv_at hl 1 rfl) ?_
  refine lv_aload_n hx hb dJx4a65c_add_9ea2d_12 rfl (lv_at hl 0 rfl) ?_
  refine va_get (D := (dC, dI)) (ci := 0) (v := .ref z.1) (C := RJx4a65c) (T := TJx4a65c) (N := 3) hx hb hts in_Jx4a65c hown hK hP 0 rfl rfl 1 (by decide) (hts _ q_24) (fun _ h9 => h9) rfl dJx4a65c_add_9ea2d_13 ?_
  refine lv_aload_n hx hb dJx4a65c_add_9ea2d_16 rfl (lv_at hl 0 rfl) ?_
  refine va_get (D := (dC, dI)) (ci := 0) (v := .int 0) (C := RJx4a65c) (T := TJx4a65c) (N := 3) hx hb hts in_Jx4a65c hown hK hP 0 rfl rfl 2 (by decide) (hts _ q_74) (fun _ h9 => h9) rfl dJx4a65c_add_9ea2d_17 ?_
  have hF3 := va_free (wc := [(h0, .inr (0, [.int 1, .ref z.1, .int 0])), (h1, .inr (3, [.int 0, .ref (z.2.1 0), .ref o0, .null, .int 0, .int 0, .int 120, .int 120, .int 0, .int 0, .int 0, .int 120, .int 120, .int 0, .int 0, .int 0, .ref h1, .int 0, .int 0]))]) hD hS hA [0, 1] rfl
  refine va_callv (va_runV (As := [.ref h1, .ref z.1, .int 0]) (rest := []) ⟨hx, hb, hml, hown, hts⟩ (k15_add l hl9 dC dI z h0 h1 o0 H2.size) (cwV 3 hts (gV q_123 q_124 q_125 q_12 q_122) rfl rfl rfl (by decide +kernel) ⟨Nat.le_of_ble_eq_true rfl, Nat.le_of_ble_eq_true rfl⟩) ⟨pc_blind, va_recv hK hP (ci := 0) (q0 := 0) rfl rfl, fun U hU hW => ⟨rfl, pc_mk hP hD hK hS hX hT [0, 1] [] rfl rfl rfl rfl hF3 hU hW⟩⟩ rfl rfl hl.1 rfl (lv_room (Nat.le_of_ble_eq_true rfl)) dJx4a65c_add_9ea2d_20 ⟨(Nat.le_of_ble_eq_true rfl), (Nat.le_of_ble_eq_true rfl)⟩) hS (fun q9 _ h9 => hF3 q9 h9) hF3 (fun u5 t5 H5 L5 ht5 hvm5 hw5 hB5 hz5 hk5 hS => ?_)
  obtain ⟨a7, k8, hB5⟩ := hB5
  obtain ⟨hP, hD, hK⟩ := pq_join (wr := []) (tr := []) (wz := [(h0, .inr (0, [.int 1, .ref a7, .int 1])), (h1, .inr (3, [.int 0, .ref (z.2.1 0), .ref o0, .null, .int 0, .int 0, .int 120, .int 120, .int 0, .int 0, .int 0, .int 120, .int 120, .int 0, .int 0, .int 0, .ref h1, .int 0, .int 0])), (a7, .inl (k8, 10, .inr (.inr (.inr (.inr (va_up (fun _ => none) 0 (some h1)))))))]) (tz := [(k8, .object "java/lang/Object")]) hP hD hK [0, 1] [] [] rfl rfl (by decide) (by decide) rfl hk5 hF3 hB5.1 ht5 hvm5 rfl rfl
  have hG : s.heap.size + 1 ≤ H5.size := va_gr (g := 0) (g1 := 1) hG (by rw [← ht5]; exact hB5.2)
  refine W.widen (k := 1) (n := 10) (by decide) (by decide) ?_
  refine lv_iconst (v := 1) hx hb dJx4a65c_add_9ea2d_23 (by decide) ?_
  exact W.zret (v := 1) (ty := .boolean) hx hb hr rfl (fun t9 ht9 hW9 => ⟨⟨1, (), rfl, rfl, ⟨a7, k8, ⟨pq_mk (wc := [(h0, .inr (0, [.int 1, .ref a7, .int 1])), (h1, .inr (3, [.int 0, .ref (z.2.1 0), .ref o0, .null, .int 0, .int 0, .int 120, .int 120, .int 0, .int 0, .int 0, .int 120, .int 120, .int 0, .int 0, .int 0, .ref h1, .int 0, .int 0])), (a7, .inl (k8, 10, .inr (.inr (.inr (.inr (va_up (fun _ => none) 0 (some h1)))))))]) (tc := [(k8, .object "java/lang/Object")]) hP hD hK [0, 1, 2] [0] rfl rfl rfl rfl ht9 hW9, by rw [ht9]; exact Nat.le_trans (Nat.add_le_add_left (Nat.le_of_ble_eq_true rfl) _) hG⟩⟩⟩, hS.F ht9⟩) hS.2.2 dJx4a65c_add_9ea2d_24

set_option maxHeartbeats 4000000 in
set_option maxRecDepth 100000 in
theorem k17_isSource (l : Launch) (hl9 : l.stackTraces = false) (dC : Nat → ClassId) (dI : Nat → Nat → Nat) (z : XZ) (h0 : Nat) (o0 : Nat) (sz : Nat) : Met l yX2_isSource (.code yX2_isSource cX2_isSource 1 (some .boolean) :: wsL_law) ({ frames := 0, cells := 0, slots := 0, locals := 0 }) (va_Pc [.ref h0] (PC (dC, dI) [(h0, .inr (3, [.int 0, .ref (z.2.1 0), .ref o0, .null, .int 0, .int 0, .int 120, .int 120, .int 0, .int 0, .int 0, .int 120, .int 120, .int 0, .int 0, .int 0, .ref h0, .int 0, .int 0]))] [] sz z)) (va_Qi (fun (r : Int32) (_ : Unit) => r = 1) (fun (_ : Unit) (t : State) => PG (dC, dI) [(h0, .inr (3, [.int 0, .ref (z.2.1 0), .ref o0, .null, .int 0, .int 0, .int 120, .int 120, .int 0, .int 0, .int 0, .int 120, .int 120, .int 0, .int 0, .int 0, .ref h0, .int 0, .int 0]))] [] (va_A [(h0, .inr (3, [.int 0, .ref (z.2.1 0), .ref o0, .null, .int 0, .int 0, .int 120, .int 120, .int 0, .int 0, .int 0, .int 120, .int 120, .int 0, .int 0, .int 0, .ref h0, .int 0, .int 0]))] sz) sz 0 t) (va_A [(h0, .inr (3, [.int 0, .ref (z.2.1 0), .ref o0, .null, .int 0, .int 0, .int 120, .int 120, .int 0, .int 0, .int 0, .int 120, .int 120, .int 0, .int 0, .int 0, .ref h0, .int 0, .int 0]))] sz)) 0 0 (va_A [(h0, .inr (3, [.int 0, .ref (z.2.1 0), .ref o0, .null, .int 0, .int 0, .int 120, .int 120, .int 0, .int 0, .int 0, .int 120, .int 120, .int 0, .int 0, .int 0, .ref h0, .int 0, .int 0]))] sz) := by
  refine Met.ofW (cc := cX2_isSource) (maxL := 1) (ret := (some .boolean)) (by decide) rfl ?_
  intro p e s m args below meth c s₁ B hml hv
  obtain ⟨rfl, hsz, hP, hK, hD0, hX, hT⟩ := hv
  have hx := B.exec
  have hb := B.bytes
  have hr := B.returns
  have hts0 := atoms_spec (ws := .code yX2_isSource cX2_isSource 1 (some .boolean) :: wsL_law) B.pre
  have hts := xTail hts0
  have hown : s.vm.findClass RX2 = some m.cls := findClass_of_methodNamed B.named
  have hlocks := B.notSynchronized
  subst hsz
  have hD := hD0.self (sz := s.heap.size)
  generalize hAe : va_A [(h0, .inr (3, [.int 0, .ref (z.2.1 0), .ref o0, .null, .int 0, .int 0, .int 120, .int 120, .int 0, .int 0, .int 0, .int 120, .int 120, .int 0, .int 0, .int 0, .ref h0, .int 0, .int 0]))] s.heap.size = A at hD hX ⊢
  have hA : ∀ q : Nat, s.heap.size ≤ q → A q := fun q h => by rw [← hAe]; exact Or.inr h
  have hS : va_S A s.heap s.heap [] := va_S.rf
  have hG : s.heap.size + 0 ≤ s.heap.size := Nat.le_refl _
  have hl := lv_entry ([.ref h0]) (n := 1) (Nat.le_of_ble_eq_true rfl)
  rw [lg_entry_eq]
  generalize (lg_sl ([.ref h0]) ++ List.replicate (1 - (lg_sl ([.ref h0])).length) Slot.unset).toArray = ls at hl ⊢
  have hl : lv_has ls 1 [(0, .ref h0)] := hl
  refine lv_aload_n hx hb dX2_isSource_0 rfl (lv_at hl 0 rfl) ?_
  refine va_get (D := (dC, dI)) (ci := 3) (v := .ref (z.2.1 0)) (C := RX2) (T := TX2) (N := 19) hx hb hts in_X2 hown hK hP 0 rfl rfl 1 (by decide) (hts _ q_98) (fun _ h9 => h9) rfl dX2_isSource_1 ?_
  refine va_gets (own := RX2) (ref := "Deltacycle$NetKind") hx hb (hX.2.1.1 0 (by decide)).1 hS hown (hts _ q_130) (fun _ h9 => h9) dX2_isSource_4 ?_
  refine lv_acmp_eq (rx := (some (z.2.1 0))) (ry := (some (z.2.1 0))) (tgt := 20) hx hb dX2_isSource_7 (by decide) (fun _ => ?_) (fun cz => absurd rfl cz)
  refine lv_iconst (v := 1) hx hb dX2_isSource_20 (by decide) ?_
  refine lv_goto (tgt := 25) hx hb dX2_isSource_21 (by decide) ?_
  exact W.zret (v := 1) (ty := .boolean) hx hb hr rfl (fun t9 ht9 hW9 => ⟨⟨1, (), rfl, rfl, ⟨pq_mk (wc := [(h0, .inr (3, [.int 0, .ref (z.2.1 0), .ref o0, .null, .int 0, .int 0, .int 120, .int 120, .int 0, .int 0, .int 0, .int 120, .int 120, .int 0, .int 0, .int 0, .ref h0, .int 0, .int 0]))]) (tc := []) hP hD hK [0] [] rfl rfl rfl rfl ht9 hW9, by rw [ht9]; exact Nat.le_trans (Nat.add_le_add_left (Nat.le_of_ble_eq_true rfl) _) hG⟩⟩, hS.F ht9⟩) hS.2.2 dX2_isSource_25

set_option maxHeartbeats 4000000 in
set_option maxRecDepth 100000 in
theorem k18_makeNet (l : Launch) (hl9 : l.stackTraces = false) (dC : Nat → ClassId) (dI : Nat → Nat → Nat) (z : XZ) (h0 h1 h2 : Nat) (o0 o1 : Nat) (sz : Nat) : Met l yX0_makeNet (.code yX0_makeNet cX0_makeNet 3 (some (.object "Deltacycle$Net")) :: wsL_law) ({ frames := 5, cells := 4, slots := 42, locals := 109 }) (va_Pc [.ref h0, .ref (z.2.1 0)] (PC (dC, dI) [(h0, .inr (2, [.ref h1, .ref h2, .ref o0, .ref o1])), (h1, .inr (0, [.int 0, .ref z.1, .int 0])), (h2, .inr (0, [.int 0, .ref z.1, .int 0]))] [] sz z)) (va_Qr (fun (_ : Unit) => True) (fun (_ : Unit) (ra : Nat) (t : State) => ∃ (n0 n1 n2 n3 : Nat), ∃ (m0 m1 : ClassId), ra = n0 ∧ PG (dC, dI) [(h0, .inr (2, [.ref h1, .ref h2, .ref o0, .ref o1])), (h1, .inr (0, [.int 1, .ref n2, .int 1])), (h2, .inr (0, [.int 1, .ref n3, .int 1])), (n0, .inr (3, [.int 0, .ref (z.2.1 0), .ref n1, .null, .int 0, .int 0, .int 120, .int 120, .int 0, .int 0, .int 0, .int 120, .int 120, .int 0, .int 0, .int 0, .ref n0, .int 0, .int 0])), (n1, .inr (0, [.int 0, .ref z.1, .int 0])), (n2, .inl (m0, 10, .inr (.inr (.inr (.inr (va_up (fun _ => none) 0 (some n0))))))), (n3, .inl (m1, 10, .inr (.inr (.inr (.inr (va_up (fun _ => none) 0 (some n0)))))))] [(m0, .object "java/lang/Object"), (m1, .object "java/lang/Object")] (va_A [(h0, .inr (2, [.ref h1, .ref h2, .ref o0, .ref o1])), (h1, .inr (0, [.int 0, .ref z.1, .int 0])), (h2, .inr (0, [.int 0, .ref z.1, .int 0]))] sz) sz 4 t) (va_A [(h0, .inr (2, [.ref h1, .ref h2, .ref o0, .ref o1])), (h1, .inr (0, [.int 0, .ref z.1, .int 0])), (h2, .inr (0, [.int 0, .ref z.1, .int 0]))] sz)) 4 42 (va_A [(h0, .inr (2, [.ref h1, .ref h2, .ref o0, .ref o1])), (h1, .inr (0, [.int 0, .ref z.1, .int 0])), (h2, .inr (0, [.int 0, .ref z.1, .int 0]))] sz) := by
  refine Met.ofW (cc := cX0_makeNet) (maxL := 3) (ret := (some (.object "Deltacycle$Net"))) (by decide) rfl ?_
  intro p e s m args below meth c s₁ B hml hv
  obtain ⟨rfl, hsz, hP, hK, hD0, hX, hT⟩ := hv
  have hx := B.exec
  have hb := B.bytes
  have hr := B.returns
  have hts0 := atoms_spec (ws := .code yX0_makeNet cX0_makeNet 3 (some (.object "Deltacycle$Net")) :: wsL_law) B.pre
  have hts := xTail hts0
  have hown : s.vm.findClass RX0 = some m.cls := findClass_of_methodNamed B.named
  have hlocks := B.notSynchronized
  subst hsz
  have hD := hD0.self (sz := s.heap.size)
  generalize hAe : va_A [(h0, .inr (2, [.ref h1, .ref h2, .ref o0, .ref o1])), (h1, .inr (0, [.int 0, .ref z.1, .int 0])), (h2, .inr (0, [.int 0, .ref z.1, .int 0]))] s.heap.size = A at hD hX ⊢
  have hA : ∀ q : Nat, s.heap.size ≤ q → A q := fun q h => by rw [← hAe]; exact Or.inr h
  have hS : va_S A s.heap s.heap [] := va_S.rf
  have hG : s.heap.size + 0 ≤ s.heap.size := Nat.le_refl _
  have hl := lv_entry ([.ref h0, .ref (z.2.1 0)]) (n := 3) (Nat.le_of_ble_eq_true rfl)
  rw [lg_entry_eq]
  generalize (lg_sl ([.ref h0, .ref (z.2.1 0)]) ++ List.replicate (3 - (lg_sl ([.ref h0, .ref (z.2.1 0)])).length) Slot.unset).toArray = ls at hl ⊢
  have hl : lv_has ls 3 [(0, .ref h0), (1, .ref (z.2.1 0))] := hl
  refine xa_new (ci := 3) (fs := [.int 0, .null, .null, .null, .int 0, .int 0, .int 0, .int 0, .int 0, .int 0, .int 0, .int 0, .int 0, .int 0, .int 0, .int 0, .null, .int 0, .int 0]) (C := RX2) (T := TX2) (N := 19) hx hb hts in_X2 tyX2 tyX2_ok hown (hts _ q_89) (hts _ q_90) (hts _ q_91) hK hP hD hS hA rfl nf_X2 (Nat.le_of_ble_eq_true rfl) (Nat.le_of_ble_eq_true rfl) dX0_makeNet_0 (fun a1 H2 hg8 hP hD hS => ?_)
  have hG : s.heap.size + 1 ≤ H2.size := by rw [hg8]; exact Nat.succ_le_succ hG
  have hP : va_P (dC, dI) xCl [(h0, .inr (2, [.ref h1, .ref h2, .ref o0, .ref o1])), (h1, .inr (0, [.int 0, .ref z.1, .int 0])), (h2, .inr (0, [.int 0, .ref z.1, .int 0])), (a1, .inr (3, [.int 0, .null, .null, .null, .int 0, .int 0, .int 0, .int 0, .int 0, .int 0, .int 0, .int 0, .int 0, .int 0, .int 0, .int 0, .null, .int 0, .int 0]))] H2 := hP
  have hD : va_D A [(h0, .inr (2, [.ref h1, .ref h2, .ref o0, .ref o1])), (h1, .inr (0, [.int 0, .ref z.1, .int 0])), (h2, .inr (0, [.int 0, .ref z.1, .int 0])), (a1, .inr (3, [.int 0, .null, .null, .null, .int 0, .int 0, .int 0, .int 0, .int 0, .int 0, .int 0, .int 0, .int 0, .int 0, .int 0, .int 0, .null, .int 0, .int 0]))] := hD
  refine W.widen (k := 1) (n := 19) (by decide) (by decide) ?_
  refine lv_dup hx hb dX0_makeNet_3 rfl ?_
  refine lv_aload_n hx hb dX0_makeNet_4 rfl (lv_at hl 0 rfl) ?_
  refine va_get (D := (dC, dI)) (ci := 2) (v := .ref h1) (C := RX0) (T := TX0) (N := 4) hx hb hts in_X0 hown hK hP 0 rfl rfl 0 (by decide) (hts _ q_28) (fun _ h9 => h9) rfl dX0_makeNet_5 ?_
  have hF3 := va_free (wc := [(h1, .inr (0, [.int 0, .ref z.1, .int 0]))]) hD hS hA [1] rfl
  refine va_calli (va_runV (As := []) (rest := [.ref a1, .ref a1]) ⟨hx, hb, hml, hown, hts⟩ (k9_size l hl9 dC dI z h1 H2.size 0 0) (cwV 0 hts (gV q_92 q_77 q_78 q_12 q_75) rfl rfl rfl (by decide +kernel) ⟨Nat.le_of_ble_eq_true rfl, Nat.le_of_ble_eq_true rfl⟩) ⟨pc_blind, va_recv hK hP (ci := 0) (q0 := 1) rfl rfl, fun U hU hW => ⟨rfl, pc_mk hP hD hK hS hX hT [1] [] rfl rfl rfl rfl hF3 hU hW⟩⟩ rfl rfl hl.1 rfl (lv_room (Nat.le_of_ble_eq_true rfl)) dX0_makeNet_8 ⟨(Nat.le_of_ble_eq_true rfl), (Nat.le_of_ble_eq_true rfl)⟩) hS (fun q9 _ h9 => hF3 q9 h9) hF3 (fun r6 u5 t5 H5 L5 ht5 hvm5 hw5 hB5 hz5 hk5 hS => ?_)
  obtain ⟨hP, hD, hK⟩ := pq_join (wr := [(h0, .inr (2, [.ref h1, .ref h2, .ref o0, .ref o1])), (h2, .inr (0, [.int 0, .ref z.1, .int 0])), (a1, .inr (3, [.int 0, .null, .null, .null, .int 0, .int 0, .int 0, .int 0, .int 0, .int 0, .int 0, .int 0, .int 0, .int 0, .int 0, .int 0, .null, .int 0, .int 0]))]) (tr := []) (wz := [(h0, .inr (2, [.ref h1, .ref h2, .ref o0, .ref o1])), (h2, .inr (0, [.int 0, .ref z.1, .int 0])), (a1, .inr (3, [.int 0, .null, .null, .null, .int 0, .int 0, .int 0, .int 0, .int 0, .int 0, .int 0, .int 0, .int 0, .int 0, .int 0, .int 0, .null, .int 0, .int 0])), (h1, .inr (0, [.int 0, .ref z.1, .int 0]))]) (tz := []) hP hD hK [1] [0, 2, 3] [] rfl rfl (by decide) (by decide) rfl hk5 hF3 hB5.1 ht5 hvm5 rfl rfl
  have hG : s.heap.size + 1 ≤ H5.size := Nat.le_trans hG hz5
  refine W.eq (g2 := F0 m 11 ls [.int 0, .ref a1, .ref a1]) (by rw [hw5]) ?_
  refine lv_aload_n hx hb dX0_makeNet_11 rfl (lv_at hl 1 rfl) ?_
  have hF7 := va_free (wc := [(a1, .inr (3, [.int 0, .null, .null, .null, .int 0, .int 0, .int 0, .int 0, .int 0, .int 0, .int 0, .int 0, .int 0, .int 0, .int 0, .int 0, .null, .int 0, .int 0]))]) hD hS hA [2] rfl
  refine va_callv (va_runI (As := [.int 0, .ref (z.2.1 0)]) (rest := [.ref a1]) ⟨hx, hb, hml, hown, hts⟩ (k12_init l hl9 dC dI z a1 H5.size) (cwI 2 hts (gIL q_104) rfl rfl rfl (hts _ q_91) (hts _ q_105) (hts _ q_106) rfl (by decide +kernel) ⟨Nat.le_of_ble_eq_true rfl, Nat.le_of_ble_eq_true rfl⟩) ⟨pc_blind, fun U hU hW => ⟨rfl, pc_mk hP hD hK hS hX hT [2] [] rfl rfl rfl rfl hF7 hU hW⟩⟩ rfl rfl hl.1 rfl (lv_room (Nat.le_of_ble_eq_true rfl)) dX0_makeNet_12 ⟨(Nat.le_of_ble_eq_true rfl), (Nat.le_of_ble_eq_true rfl)⟩) hS (fun q9 _ h9 => hF7 q9 h9) hF7 (fun u9 t9 H9 L9 ht9 hvm9 hw9 hB9 hz9 hk9 hS => ?_)
  obtain ⟨a11, hB9⟩ := hB9
  obtain ⟨hP, hD, hK⟩ := pq_join (wr := [(h0, .inr (2, [.ref h1, .ref h2, .ref o0, .ref o1])), (h2, .inr (0, [.int 0, .ref z.1, .int 0])), (h1, .inr (0, [.int 0, .ref z.1, .int 0]))]) (tr := []) (wz := [(h0, .inr (2, [.ref h1, .ref h2, .ref o0, .ref o1])), (h2, .inr (0, [.int 0, .ref z.1, .int 0])), (h1, .inr (0, [.int 0, .ref z.1, .int 0])), (a1, .inr (3, [.int 0, .ref (z.2.1 0), .ref a11, .null, .int 0, .int 0, .int 120, .int 120, .int 0, .int 0, .int 0, .int 120, .int 120, .int 0, .int 0, .int 0, .ref a1, .int 0, .int 0])), (a11, .inr (0, [.int 0, .ref z.1, .int 0]))]) (tz := []) hP hD hK [2] [0, 1, 3] [] rfl rfl (by decide) (by decide) rfl hk9 hF7 hB9.1 ht9 hvm9 rfl rfl
  have hG : s.heap.size + 2 ≤ H9.size := va_gr (g := 1) (g1 := 1) hG (by rw [← ht9]; exact hB9.2)
  refine W.widen (k := 2) (n := 22) (by decide) (by decide) ?_
  refine lv_astore_n (lv' := [(2, .ref a1), (0, .ref h0), (1, .ref (z.2.1 0))]) hx hb dX0_makeNet_15 rfl hl (by decide) rfl (fun ls hl => ?_)
  refine lv_aload_n hx hb dX0_makeNet_16 rfl (lv_at hl 1 rfl) ?_
  refine va_get (D := (dC, dI)) (ci := 2) (v := .ref h1) (C := RX0) (T := TX0) (N := 4) hx hb hts in_X0 hown hK hP 0 rfl rfl 0 (by decide) (hts _ q_28) (fun _ h9 => h9) rfl dX0_makeNet_17 ?_
  refine lv_aload_n hx hb dX0_makeNet_20 rfl (lv_at hl 0 rfl) ?_
  have hF12 := va_free (wc := [(h1, .inr (0, [.int 0, .ref z.1, .int 0])), (a1, .inr (3, [.int 0, .ref (z.2.1 0), .ref a11, .null, .int 0, .int 0, .int 120, .int 120, .int 0, .int 0, .int 0, .int 120, .int 120, .int 0, .int 0, .int 0, .ref a1, .int 0, .int 0]))]) hD hS hA [2, 3] rfl
  refine va_calli (va_runV (As := [.ref a1]) (rest := []) ⟨hx, hb, hml, hown, hts⟩ (k16_add l hl9 dC dI z h1 a1 a11 H9.size) (cwV 1 hts (gV q_127 q_128 q_129 q_12 q_126) rfl rfl rfl (by decide +kernel) ⟨Nat.le_of_ble_eq_true rfl, Nat.le_of_ble_eq_true rfl⟩) ⟨pc_blind, va_recv hK hP (ci := 0) (q0 := 2) rfl rfl, fun U hU hW => ⟨rfl, pc_mk hP hD hK hS hX hT [2, 3] [] rfl rfl rfl rfl hF12 hU hW⟩⟩ rfl rfl hl.1 rfl (lv_room (Nat.le_of_ble_eq_true rfl)) dX0_makeNet_21 ⟨(Nat.le_of_ble_eq_true rfl), (Nat.le_of_ble_eq_true rfl)⟩) hS (fun q9 _ h9 => hF12 q9 h9) hF12 (fun r15 u14 t14 H14 L14 ht14 hvm14 hw14 hB14 hz14 hk14 hS => ?_)
  obtain ⟨a16, k17, hB14⟩ := hB14
  obtain ⟨hP, hD, hK⟩ := pq_join (wr := [(h0, .inr (2, [.ref h1, .ref h2, .ref o0, .ref o1])), (h2, .inr (0, [.int 0, .ref z.1, .int 0])), (a11, .inr (0, [.int 0, .ref z.1, .int 0]))]) (tr := []) (wz := [(h0, .inr (2, [.ref h1, .ref h2, .ref o0, .ref o1])), (h2, .inr (0, [.int 0, .ref z.1, .int 0])), (a11, .inr (0, [.int 0, .ref z.1, .int 0])), (h1, .inr (0, [.int 1, .ref a16, .int 1])), (a1, .inr (3, [.int 0, .ref (z.2.1 0), .ref a11, .null, .int 0, .int 0, .int 120, .int 120, .int 0, .int 0, .int 0, .int 120, .int 120, .int 0, .int 0, .int 0, .ref a1, .int 0, .int 0])), (a16, .inl (k17, 10, .inr (.inr (.inr (.inr (va_up (fun _ => none) 0 (some a1)))))))]) (tz := [(k17, .object "java/lang/Object")]) hP hD hK [2, 3] [0, 1, 4] [] rfl rfl (by decide) (by decide) rfl hk14 hF12 hB14.1 ht14 hvm14 rfl rfl
  have hG : s.heap.size + 3 ≤ H14.size := va_gr (g := 2) (g1 := 1) hG (by rw [← ht14]; exact hB14.2)
  refine W.eq (g2 := F0 m 24 ls [.int 1]) (by rw [hw14]) ?_
  refine W.widen (k := 3) (n := 32) (by decide) (by decide) ?_
  refine lv_pop hx hb dX0_makeNet_24 rfl ?_
  refine lv_aload_n hx hb dX0_makeNet_25 rfl (lv_at hl 0 rfl) ?_
  have hF18 := va_free (wc := [(a1, .inr (3, [.int 0, .ref (z.2.1 0), .ref a11, .null, .int 0, .int 0, .int 120, .int 120, .int 0, .int 0, .int 0, .int 120, .int 120, .int 0, .int 0, .int 0, .ref a1, .int 0, .int 0]))]) hD hS hA [4] rfl
  refine va_calli (va_runV (As := []) (rest := []) ⟨hx, hb, hml, hown, hts⟩ (k17_isSource l hl9 dC dI z a1 a11 H14.size) (cwV 0 hts (gV q_132 q_133 q_134 q_91 q_131) rfl rfl rfl (by decide +kernel) ⟨Nat.le_of_ble_eq_true rfl, Nat.le_of_ble_eq_true rfl⟩) ⟨pc_blind, va_recv hK hP (ci := 3) (q0 := 4) rfl rfl, fun U hU hW => ⟨rfl, pc_mk hP hD hK hS hX hT [4] [] rfl rfl rfl rfl hF18 hU hW⟩⟩ rfl rfl hl.1 rfl (lv_room (Nat.le_of_ble_eq_true rfl)) dX0_makeNet_26 ⟨(Nat.le_of_ble_eq_true rfl), (Nat.le_of_ble_eq_true rfl)⟩) hS (fun q9 _ h9 => hF18 q9 h9) hF18 (fun r21 u20 t20 H20 L20 ht20 hvm20 hw20 hB20 hz20 hk20 hS => ?_)
  obtain ⟨hP, hD, hK⟩ := pq_join (wr := [(h0, .inr (2, [.ref h1, .ref h2, .ref o0, .ref o1])), (h2, .inr (0, [.int 0, .ref z.1, .int 0])), (a11, .inr (0, [.int 0, .ref z.1, .int 0])), (h1, .inr (0, [.int 1, .ref a16, .int 1])), (a16, .inl (k17, 10, .inr (.inr (.inr (.inr (va_up (fun _ => none) 0 (some a1)))))))]) (tr := [(k17, .object "java/lang/Object")]) (wz := [(h0, .inr (2, [.ref h1, .ref h2, .ref o0, .ref o1])), (h2, .inr (0, [.int 0, .ref z.1, .int 0])), (a11, .inr (0, [.int 0, .ref z.1, .int 0])), (h1, .inr (0, [.int 1, .ref a16, .int 1])), (a16, .inl (k17, 10, .inr (.inr (.inr (.inr (va_up (fun _ => none) 0 (some a1))))))), (a1, .inr (3, [.int 0, .ref (z.2.1 0), .ref a11, .null, .int 0, .int 0, .int 120, .int 120, .int 0, .int 0, .int 0, .int 120, .int 120, .int 0, .int 0, .int 0, .ref a1, .int 0, .int 0]))]) (tz := [(k17, .object "java/lang/Object")]) hP hD hK [4] [0, 1, 2, 3, 5] [0] rfl rfl (by decide) (by decide) rfl hk20 hF18 hB20.1 ht20 hvm20 rfl rfl
  have hG : s.heap.size + 3 ≤ H20.size := Nat.le_trans hG hz20
  refine W.eq (g2 := F0 m 29 ls [.int 1]) (by rw [hw20]) ?_
  refine lv_if_eq (tgt := 41) hx hb dX0_makeNet_29 (by decide) (fun cz => absurd cz (by decide)) (fun _ => ?_)
  refine lv_aload_n hx hb dX0_makeNet_32 rfl (lv_at hl 1 rfl) ?_
  refine va_get (D := (dC, dI)) (ci := 2) (v := .ref h2) (C := RX0) (T := TX0) (N := 4) hx hb hts in_X0 hown hK hP 0 rfl rfl 1 (by decide) (hts _ q_29) (fun _ h9 => h9) rfl dX0_makeNet_33 ?_
  refine lv_aload_n hx hb dX0_makeNet_36 rfl (lv_at hl 0 rfl) ?_
  have hF22 := va_free (wc := [(h2, .inr (0, [.int 0, .ref z.1, .int 0])), (a1, .inr (3, [.int 0, .ref (z.2.1 0), .ref a11, .null, .int 0, .int 0, .int 120, .int 120, .int 0, .int 0, .int 0, .int 120, .int 120, .int 0, .int 0, .int 0, .ref a1, .int 0, .int 0]))]) hD hS hA [1, 5] rfl
  refine va_calli (va_runV (As := [.ref a1]) (rest := []) ⟨hx, hb, hml, hown, hts⟩ (k16_add l hl9 dC dI z h2 a1 a11 H20.size) (cwV 1 hts (gV q_127 q_128 q_129 q_12 q_126) rfl rfl rfl (by decide +kernel) ⟨Nat.le_of_ble_eq_true rfl, Nat.le_of_ble_eq_true rfl⟩) ⟨pc_blind, va_recv hK hP (ci := 0) (q0 := 1) rfl rfl, fun U hU hW => ⟨rfl, pc_mk hP hD hK hS hX hT [1, 5] [] rfl rfl rfl rfl hF22 hU hW⟩⟩ rfl rfl hl.1 rfl (lv_room (Nat.le_of_ble_eq_true rfl)) dX0_makeNet_37 ⟨(Nat.le_of_ble_eq_true rfl), (Nat.le_of_ble_eq_true rfl)⟩) hS (fun q9 _ h9 => hF22 q9 h9) hF22 (fun r25 u24 t24 H24 L24 ht24 hvm24 hw24 hB24 hz24 hk24 hS => ?_)
  obtain ⟨a26, k27, hB24⟩ := hB24
  obtain ⟨hP, hD, hK⟩ := pq_join (wr := [(h0, .inr (2, [.ref h1, .ref h2, .ref o0, .ref o1])), (a11, .inr (0, [.int 0, .ref z.1, .int 0])), (h1, .inr (0, [.int 1, .ref a16, .int 1])), (a16, .inl (k17, 10, .inr (.inr (.inr (.inr (va_up (fun _ => none) 0 (some a1)))))))]) (tr := [(k17, .object "java/lang/Object")]) (wz := [(h0, .inr (2, [.ref h1, .ref h2, .ref o0, .ref o1])), (a11, .inr (0, [.int 0, .ref z.1, .int 0])), (h1, .inr (0, [.int 1, .ref a16, .int 1])), (a16, .inl (k17, 10, .inr (.inr (.inr (.inr (va_up (fun _ => none) 0 (some a1))))))), (h2, .inr (0, [.int 1, .ref a26, .int 1])), (a1, .inr (3, [.int 0, .ref (z.2.1 0), .ref a11, .null, .int 0, .int 0, .int 120, .int 120, .int 0, .int 0, .int 0, .int 120, .int 120, .int 0, .int 0, .int 0, .ref a1, .int 0, .int 0])), (a26, .inl (k27, 10, .inr (.inr (.inr (.inr (va_up (fun _ => none) 0 (some a1)))))))]) (tz := [(k17, .object "java/lang/Object"), (k27, .object "java/lang/Object")]) hP hD hK [1, 5] [0, 2, 3, 4] [0] rfl rfl (by decide) (by decide) rfl hk24 hF22 hB24.1 ht24 hvm24 rfl rfl
  have hG : s.heap.size + 4 ≤ H24.size := va_gr (g := 3) (g1 := 1) hG (by rw [← ht24]; exact hB24.2)
  refine W.eq (g2 := F0 m 40 ls [.int 1]) (by rw [hw24]) ?_
  refine W.widen (k := 4) (n := 42) (by decide) (by decide) ?_
  refine lv_pop hx hb dX0_makeNet_40 rfl ?_
  refine lv_aload_n hx hb dX0_makeNet_41 rfl (lv_at hl 0 rfl) ?_
  exact W.aret (v := .ref a1) hx hb hr (by first | exact Or.inl ⟨_, rfl⟩ | exact Or.inr ⟨_, rfl⟩) (Or.inr ⟨_, rfl⟩) (fun t9 ht9 hW9 => ⟨⟨(), a1, rfl, trivial, ⟨a1, a11, a16, a26, k17, k27, rfl, ⟨pq_mk (wc := [(h0, .inr (2, [.ref h1, .ref h2, .ref o0, .ref o1])), (h1, .inr (0, [.int 1, .ref a16, .int 1])), (h2, .inr (0, [.int 1, .ref a26, .int 1])), (a1, .inr (3, [.int 0, .ref (z.2.1 0), .ref a11, .null, .int 0, .int 0, .int 120, .int 120, .int 0, .int 0, .int 0, .int 120, .int 120, .int 0, .int 0, .int 0, .ref a1, .int 0, .int 0])), (a11, .inr (0, [.int 0, .ref z.1, .int 0])), (a16, .inl (k17, 10, .inr (.inr (.inr (.inr (va_up (fun _ => none) 0 (some a1))))))), (a26, .inl (k27, 10, .inr (.inr (.inr (.inr (va_up (fun _ => none) 0 (some a1)))))))]) (tc := [(k17, .object "java/lang/Object"), (k27, .object "java/lang/Object")]) hP hD hK [0, 2, 4, 5, 1, 3, 6] [0, 1] rfl rfl rfl rfl ht9 hW9, by rw [ht9]; exact Nat.le_trans (Nat.add_le_add_left (Nat.le_of_ble_eq_true rfl) _) hG⟩⟩⟩, hS.F ht9⟩) hS.2.2 dX0_makeNet_42

set_option maxHeartbeats 4000000 in
set_option maxRecDepth 100000 in
theorem k19_clear (l : Launch) (hl9 : l.stackTraces = false) (dC : Nat → ClassId) (dI : Nat → Nat → Nat) (z : XZ) (h0 : Nat) (sz : Nat) : Met l yJx4a65c_clear_da8c8 (.code yJx4a65c_clear_da8c8 cJx4a65c_clear_da8c8 4 none :: wsL_law) ({ frames := 0, cells := 0, slots := 0, locals := 0 }) (va_Pc [.ref h0] (PC (dC, dI) [(h0, .inr (0, [.int 0, .ref z.1, .int 0]))] [] sz z)) (va_Qv (fun (_ : Unit) => True) (fun (_ : Unit) (t : State) => PG (dC, dI) [(h0, .inr (0, [.int 1, .ref z.1, .int 0]))] [] (va_A [(h0, .inr (0, [.int 0, .ref z.1, .int 0]))] sz) sz 0 t) (va_A [(h0, .inr (0, [.int 0, .ref z.1, .int 0]))] sz)) 0 0 (va_A [(h0, .inr (0, [.int 0, .ref z.1, .int 0]))] sz) := by
  refine Met.ofW (cc := cJx4a65c_clear_da8c8) (maxL := 4) (ret := none) (by decide) rfl ?_
  intro p e s m args below meth c s₁ B hml hv
  obtain ⟨rfl, hsz, hP, hK, hD0, hX, hT⟩ := hv
  have hx := B.exec
  have hb := B.bytes
  have hr := B.returns
  have hts0 := atoms_spec (ws := .code yJx4a65c_clear_da8c8 cJx4a65c_clear_da8c8 4 none :: wsL_law) B.pre
  have hts := xTail hts0
  have hown : s.vm.findClass RJx4a65c = some m.cls := findClass_of_methodNamed B.named
  have hlocks := B.notSynchronized
  subst hsz
  have hD := hD0.self (sz := s.heap.size)
  generalize hAe : va_A [(h0, .inr (0, [.int 0, .ref z.1, .int 0]))] s.heap.size = A at hD hX ⊢
  have hA : ∀ q : Nat, s.heap.size ≤ q → A q := fun q h => by rw [← hAe]; exact Or.inr h
  have hS : va_S A s.heap s.heap [] := va_S.rf
  have hG : s.heap.size + 0 ≤ s.heap.size := Nat.le_refl _
  have hl := lv_entry ([.ref h0]) (n := 4) (Nat.le_of_ble_eq_true rfl)
  rw [lg_entry_eq]
  generalize (lg_sl ([.ref h0]) ++ List.replicate (4 - (lg_sl ([.ref h0])).length) Slot.unset).toArray = ls at hl ⊢
  have hl : lv_has ls 4 [(0, .ref h0)] := hl
  refine lv_aload_n hx hb dJx4a65c_clear_da8c8_0 rfl (lv_at hl 0 rfl) ?_
  refine lv_dup hx hb dJx4a65c_clear_da8c8_1 rfl ?_
  refine va_get (D := (dC, dI)) (ci := 0) (v := .int 0) (C := RJx4a65c) (T := TJx4a65c) (N := 3) hx hb hts in_Jx4a65c hown hK hP 0 rfl rfl 0 (by decide) (hts _ q_108) (u_same (hts _ q_107)) rfl dJx4a65c_clear_da8c8_2 ?_
  refine lv_iconst (v := 1) hx hb dJx4a65c_clear_da8c8_5 (by decide) ?_
  refine lv_iadd hx hb dJx4a65c_clear_da8c8_6 ?_
  refine lv_topi (fun y1 ey1 => ?_)
  obtain rfl : y1 = 1 := ey1.trans (by decide)
  refine va_put (D := (dC, dI)) (ci := 0) (v := .int 1) (ty := .int) (C := RJx4a65c) (T := TJx4a65c) (N := 3) hx hb hts in_Jx4a65c tyJx4a65c tyJx4a65c_ok nmJx4a65c hown hK hP hD (va_Sre hS) 0 rfl rfl 0 (by decide) (hts _ q_108) (u_same (hts _ q_107)) rfl (by decide +kernel) rfl rfl (Nat.le_of_ble_eq_true rfl) dJx4a65c_clear_da8c8_7 (fun H2 _ hP hD hS' => ?_)
  have hG : s.heap.size + 0 ≤ H2.size := Nat.le_trans hG hS'.1
  have hS := va_Str hS hS'
  have hP : va_P (dC, dI) xCl [(h0, .inr (0, [.int 1, .ref z.1, .int 0]))] H2 := hP
  have hD : va_D A [(h0, .inr (0, [.int 1, .ref z.1, .int 0]))] := hD
  refine lv_aload_n hx hb dJx4a65c_clear_da8c8_10 rfl (lv_at hl 0 rfl) ?_
  refine va_get (D := (dC, dI)) (ci := 0) (v := .ref z.1) (C := RJx4a65c) (T := TJx4a65c) (N := 3) hx hb hts in_Jx4a65c hown hK hP 0 rfl rfl 1 (by decide) (hts _ q_24) (fun _ h9 => h9) rfl dJx4a65c_clear_da8c8_11 ?_
  refine lv_astore_n (lv' := [(1, .ref z.1), (0, .ref h0)]) hx hb dJx4a65c_clear_da8c8_14 rfl hl (by decide) rfl (fun ls hl => ?_)
  refine lv_aload_n hx hb dJx4a65c_clear_da8c8_15 rfl (lv_at hl 1 rfl) ?_
  refine va_get (D := (dC, dI)) (ci := 0) (v := .int 0) (C := RJx4a65c) (T := TJx4a65c) (N := 3) hx hb hts in_Jx4a65c hown hK hP 0 rfl rfl 2 (by decide) (hts _ q_74) (fun _ h9 => h9) rfl dJx4a65c_clear_da8c8_16 ?_
  refine lv_istore_n (lv' := [(2, .int 0), (1, .ref z.1), (0, .ref h0)]) hx hb dJx4a65c_clear_da8c8_19 rfl hl (by decide) rfl (fun ls hl => ?_)
  refine lv_aload_n hx hb dJx4a65c_clear_da8c8_20 rfl (lv_at hl 2 rfl) ?_
  refine lv_iconst (v := 0) hx hb dJx4a65c_clear_da8c8_21 (by decide) ?_
  refine lv_dup_x1 hx hb dJx4a65c_clear_da8c8_22 rfl rfl ?_
  refine va_put (D := (dC, dI)) (ci := 0) (v := .int 0) (ty := .int) (C := RJx4a65c) (T := TJx4a65c) (N := 3) hx hb hts in_Jx4a65c tyJx4a65c tyJx4a65c_ok nmJx4a65c hown hK hP hD (va_Sre hS) 0 rfl rfl 2 (by decide) (hts _ q_74) (fun _ h9 => h9) rfl (by decide +kernel) rfl rfl (Nat.le_of_ble_eq_true rfl) dJx4a65c_clear_da8c8_23 (fun H3 _ hP hD hS' => ?_)
  have hG : s.heap.size + 0 ≤ H3.size := Nat.le_trans hG hS'.1
  have hS := va_Str hS hS'
  have hP : va_P (dC, dI) xCl [(h0, .inr (0, [.int 1, .ref z.1, .int 0]))] H3 := hP
  have hD : va_D A [(h0, .inr (0, [.int 1, .ref z.1, .int 0]))] := hD
  refine lv_istore_n (lv' := [(3, .int 0), (2, .int 0), (1, .ref z.1), (0, .ref h0)]) hx hb dJx4a65c_clear_da8c8_26 rfl hl (by decide) rfl (fun ls hl => ?_)
  refine lv_iload_n hx hb dJx4a65c_clear_da8c8_27 rfl (lv_at hl 0 rfl) ?_
  refine lv_iload_n hx hb dJx4a65c_clear_da8c8_28 rfl (lv_at hl 1 rfl) ?_
  refine lv_icmp_ge (tgt := 42) hx hb dJx4a65c_clear_da8c8_29 (by decide) (fun _ => ?_) (fun cz => absurd (by decide) cz)
  exact W.vret hx hb hr (fun t9 ht9 hW9 => ⟨⟨(), rfl, trivial, ⟨pq_mk (wc := [(h0, .inr (0, [.int 1, .ref z.1, .int 0]))]) (tc := []) hP hD hK [0] [] rfl rfl rfl rfl ht9 hW9, by rw [ht9]; exact Nat.le_trans (Nat.add_le_add_left (Nat.le_of_ble_eq_true rfl) _) hG⟩⟩, hS.F ht9⟩) hS.2.2 dJx4a65c_clear_da8c8_42

set_option maxHeartbeats 4000000 in
set_option maxRecDepth 100000 in
theorem k20_size (l : Launch) (hl9 : l.stackTraces = false) (dC : Nat → ClassId) (dI : Nat → Nat → Nat) (z : XZ) (h0 : Nat) (o0 : Nat) (sz : Nat) (p0 p1 : Int32) : Met l yJx4a65c_size_8abf5 (.code yJx4a65c_size_8abf5 cJx4a65c_size_8abf5 1 (some .int) :: wsL_law) ({ frames := 0, cells := 0, slots := 0, locals := 0 }) (va_Pc [.ref h0] (PC (dC, dI) [(h0, .inr (0, [.int p0, .ref o0, .int p1]))] [] sz z)) (va_Qi (fun (r : Int32) (_ : Unit) => r = p1) (fun (_ : Unit) (t : State) => PG (dC, dI) [(h0, .inr (0, [.int p0, .ref o0, .int p1]))] [] (va_A [(h0, .inr (0, [.int p0, .ref o0, .int p1]))] sz) sz 0 t) (va_A [(h0, .inr (0, [.int p0, .ref o0, .int p1]))] sz)) 0 0 (va_A [(h0, .inr (0, [.int p0, .ref o0, .int p1]))] sz) := by
  refine Met.ofW (cc := cJx4a65c_size_8abf5) (maxL := 1) (ret := (some .int)) (by decide) rfl ?_
  intro p e s m args below meth c s₁ B hml hv
  obtain ⟨rfl, hsz, hP, hK, hD0, hX, hT⟩ := hv
  have hx := B.exec
  have hb := B.bytes
  have hr := B.returns
  have hts0 := atoms_spec (ws := .code yJx4a65c_size_8abf5 cJx4a65c_size_8abf5 1 (some .int) :: wsL_law) B.pre
  have hts := xTail hts0
  have hown : s.vm.findClass RJx4a65c = some m.cls := findClass_of_methodNamed B.named
  have hlocks := B.notSynchronized
  subst hsz
  have hD := hD0.self (sz := s.heap.size)
  generalize hAe : va_A [(h0, .inr (0, [.int p0, .ref o0, .int p1]))] s.heap.size = A at hD hX ⊢
  have hA : ∀ q : Nat, s.heap.size ≤ q → A q := fun q h => by rw [← hAe]; exact Or.inr h
  have hS : va_S A s.heap s.heap [] := va_S.rf
  have hG : s.heap.size + 0 ≤ s.heap.size := Nat.le_refl _
  have hl := lv_entry ([.ref h0]) (n := 1) (Nat.le_of_ble_eq_true rfl)
  rw [lg_entry_eq]
  generalize (lg_sl ([.ref h0]) ++ List.replicate (1 - (lg_sl ([.ref h0])).length) Slot.unset).toArray = ls at hl ⊢
  have hl : lv_has ls 1 [(0, .ref h0)] := hl
  refine lv_aload_n hx hb dJx4a65c_size_8abf5_0 rfl (lv_at hl 0 rfl) ?_
  refine va_get (D := (dC, dI)) (ci := 0) (v := .int p1) (C := RJx4a65c) (T := TJx4a65c) (N := 3) hx hb hts in_Jx4a65c hown hK hP 0 rfl rfl 2 (by decide) (hts _ q_74) (fun _ h9 => h9) rfl dJx4a65c_size_8abf5_1 ?_
  exact W.iret (v := p1) hx hb hr (fun t9 ht9 hW9 => ⟨⟨p1, (), rfl, rfl, ⟨pq_mk (wc := [(h0, .inr (0, [.int p0, .ref o0, .int p1]))]) (tc := []) hP hD hK [0] [] rfl rfl rfl rfl ht9 hW9, by rw [ht9]; exact Nat.le_trans (Nat.add_le_add_left (Nat.le_of_ble_eq_true rfl) _) hG⟩⟩, hS.F ht9⟩) hS.2.2 dJx4a65c_size_8abf5_4

set_option maxHeartbeats 4000000 in
set_option maxRecDepth 100000 in
theorem k21_checkIndex (l : Launch) (hl9 : l.stackTraces = false) (dC : Nat → ClassId) (dI : Nat → Nat → Nat) (z : XZ) (sz : Nat) : Met l yJ3_checkIndex_8e157 (.code yJ3_checkIndex_8e157 cJ3_checkIndex_8e157 3 (some .int) :: wsL_law) ({ frames := 0, cells := 0, slots := 0, locals := 0 }) (va_Pc [.int 0, .int 1, .null] (PC (dC, dI) [] [] sz z)) (va_Qi (fun (r : Int32) (_ : Unit) => r = 0) (fun (_ : Unit) (t : State) => PG (dC, dI) [] [] (va_A [] sz) sz 0 t) (va_A [] sz)) 0 0 (va_A [] sz) := by
  refine Met.ofW (cc := cJ3_checkIndex_8e157) (maxL := 3) (ret := (some .int)) (by decide) rfl ?_
  intro p e s m args below meth c s₁ B hml hv
  obtain ⟨rfl, hsz, hP, hK, hD0, hX, hT⟩ := hv
  have hx := B.exec
  have hb := B.bytes
  have hr := B.returns
  have hts0 := atoms_spec (ws := .code yJ3_checkIndex_8e157 cJ3_checkIndex_8e157 3 (some .int) :: wsL_law) B.pre
  have hts := xTail hts0
  have hown : s.vm.findClass RJ3 = some m.cls := findClass_of_methodNamed B.named
  have hlocks := B.notSynchronized
  subst hsz
  have hD := hD0.self (sz := s.heap.size)
  generalize hAe : va_A [] s.heap.size = A at hD hX ⊢
  have hA : ∀ q : Nat, s.heap.size ≤ q → A q := fun q h => by rw [← hAe]; exact Or.inr h
  have hS : va_S A s.heap s.heap [] := va_S.rf
  have hG : s.heap.size + 0 ≤ s.heap.size := Nat.le_refl _
  have hl := lv_entry ([.int 0, .int 1, .null]) (n := 3) (Nat.le_of_ble_eq_true rfl)
  rw [lg_entry_eq]
  generalize (lg_sl ([.int 0, .int 1, .null]) ++ List.replicate (3 - (lg_sl ([.int 0, .int 1, .null])).length) Slot.unset).toArray = ls at hl ⊢
  have hl : lv_has ls 3 [(0, .int 0), (1, .int 1), (2, .null)] := hl
  refine lv_iload_n hx hb dJ3_checkIndex_8e157_0 rfl (lv_at hl 0 rfl) ?_
  refine lv_if_lt (tgt := 9) hx hb dJ3_checkIndex_8e157_1 (by decide) (fun cz => absurd cz (by decide)) (fun _ => ?_)
  refine lv_iload_n hx hb dJ3_checkIndex_8e157_4 rfl (lv_at hl 0 rfl) ?_
  refine lv_iload_n hx hb dJ3_checkIndex_8e157_5 rfl (lv_at hl 1 rfl) ?_
  refine lv_icmp_lt (tgt := 16) hx hb dJ3_checkIndex_8e157_6 (by decide) (fun _ => ?_) (fun cz => absurd (by decide) cz)
  refine lv_iload_n hx hb dJ3_checkIndex_8e157_16 rfl (lv_at hl 0 rfl) ?_
  exact W.iret (v := 0) hx hb hr (fun t9 ht9 hW9 => ⟨⟨0, (), rfl, rfl, ⟨pq_mk (wc := []) (tc := []) hP hD hK [] [] rfl rfl rfl rfl ht9 hW9, by rw [ht9]; exact Nat.le_trans (Nat.add_le_add_left (Nat.le_of_ble_eq_true rfl) _) hG⟩⟩, hS.F ht9⟩) hS.2.2 dJ3_checkIndex_8e157_17

set_option maxHeartbeats 4000000 in
set_option maxRecDepth 100000 in
theorem k22_checkIndex (l : Launch) (hl9 : l.stackTraces = false) (dC : Nat → ClassId) (dI : Nat → Nat → Nat) (z : XZ) (sz : Nat) : Met l yJ15_checkIndex_7cf53 (.code yJ15_checkIndex_7cf53 cJ15_checkIndex_7cf53 2 (some .int) :: wsL_law) ({ frames := 1, cells := 0, slots := 0, locals := 22 }) (va_Pc [.int 0, .int 1] (PC (dC, dI) [] [] sz z)) (va_Qi (fun (r : Int32) (_ : Unit) => r = 0) (fun (_ : Unit) (t : State) => PG (dC, dI) [] [] (va_A [] sz) sz 0 t) (va_A [] sz)) 0 0 (va_A [] sz) := by
  refine Met.ofW (cc := cJ15_checkIndex_7cf53) (maxL := 2) (ret := (some .int)) (by decide) rfl ?_
  intro p e s m args below meth c s₁ B hml hv
  obtain ⟨rfl, hsz, hP, hK, hD0, hX, hT⟩ := hv
  have hx := B.exec
  have hb := B.bytes
  have hr := B.returns
  have hts0 := atoms_spec (ws := .code yJ15_checkIndex_7cf53 cJ15_checkIndex_7cf53 2 (some .int) :: wsL_law) B.pre
  have hts := xTail hts0
  have hown : s.vm.findClass RJ15 = some m.cls := findClass_of_methodNamed B.named
  have hlocks := B.notSynchronized
  subst hsz
  have hD := hD0.self (sz := s.heap.size)
  generalize hAe : va_A [] s.heap.size = A at hD hX ⊢
  have hA : ∀ q : Nat, s.heap.size ≤ q → A q := fun q h => by rw [← hAe]; exact Or.inr h
  have hS : va_S A s.heap s.heap [] := va_S.rf
  have hG : s.heap.size + 0 ≤ s.heap.size := Nat.le_refl _
  have hl := lv_entry ([.int 0, .int 1]) (n := 2) (Nat.le_of_ble_eq_true rfl)
  rw [lg_entry_eq]
  generalize (lg_sl ([.int 0, .int 1]) ++ List.replicate (2 - (lg_sl ([.int 0, .int 1])).length) Slot.unset).toArray = ls at hl ⊢
  have hl : lv_has ls 2 [(0, .int 0), (1, .int 1)] := hl
  refine lv_iload_n hx hb dJ15_checkIndex_7cf53_0 rfl (lv_at hl 0 rfl) ?_
  refine lv_iload_n hx hb dJ15_checkIndex_7cf53_1 rfl (lv_at hl 1 rfl) ?_
  refine lv_null hx hb dJ15_checkIndex_7cf53_2 ?_
  have hF1 := va_free (wc := []) hD hS hA [] rfl
  refine va_calli (va_runS (As := [.int 0, .int 1, .null]) (rest := []) ⟨hx, hb, hml, hown, hts⟩ (k21_checkIndex l hl9 dC dI z s.heap.size) (va_cwS 3 hts (gS q_144 q_145 q_146 q_143) rfl rfl rfl (by decide +kernel) ⟨Nat.le_of_ble_eq_true rfl, Nat.le_of_ble_eq_true rfl⟩) ⟨pc_blind, fun U hU hW => ⟨rfl, pc_mk hP hD hK hS hX hT [] [] rfl rfl rfl rfl hF1 hU hW⟩⟩ rfl rfl hl.1 rfl (lv_room (Nat.le_of_ble_eq_true rfl)) dJ15_checkIndex_7cf53_3 ⟨(Nat.le_of_ble_eq_true rfl), (Nat.le_of_ble_eq_true rfl)⟩) hS (fun q9 _ h9 => hF1 q9 h9) hF1 (fun r4 u3 t3 H3 L3 ht3 hvm3 hw3 hB3 hz3 hk3 hS => ?_)
  obtain ⟨hP, hD, hK⟩ := pq_join (wr := []) (tr := []) (wz := []) (tz := []) hP hD hK [] [] [] rfl rfl (by decide) (by decide) rfl hk3 hF1 hB3.1 ht3 hvm3 rfl rfl
  have hG : s.heap.size + 0 ≤ H3.size := Nat.le_trans hG hz3
  refine W.eq (g2 := F0 m 6 ls [.int 0]) (by rw [hw3]) ?_
  exact W.iret (v := 0) hx hb hr (fun t9 ht9 hW9 => ⟨⟨0, (), rfl, rfl, ⟨pq_mk (wc := []) (tc := []) hP hD hK [] [] rfl rfl rfl rfl ht9 hW9, by rw [ht9]; exact Nat.le_trans (Nat.add_le_add_left (Nat.le_of_ble_eq_true rfl) _) hG⟩⟩, hS.F ht9⟩) hS.2.2 dJ15_checkIndex_7cf53_6

set_option maxHeartbeats 4000000 in
set_option maxRecDepth 100000 in
theorem k23_elementData (l : Launch) (hl9 : l.stackTraces = false) (dC : Nat → ClassId) (dI : Nat → Nat → Nat) (z : XZ) (h0 h1 : Nat) (o0 : Nat) (sz : Nat) (kc0 : ClassId) : Met l yJx4a65c_elementData_915e3 (.code yJx4a65c_elementData_915e3 cJx4a65c_elementData_915e3 2 (some (.object "java/lang/Object")) :: wsL_law) ({ frames := 0, cells := 0, slots := 0, locals := 0 }) (va_Pc [.ref h0, .int 0] (PC (dC, dI) [(h0, .inr (0, [.int 1, .ref h1, .int 1])), (h1, .inl (kc0, 10, .inr (.inr (.inr (.inr (va_up (fun _ => none) 0 (some o0)))))))] [(kc0, .object "java/lang/Object")] sz z)) (va_Qr (fun (_ : Unit) => True) (fun (_ : Unit) (ra : Nat) (t : State) => ra = o0 ∧ PG (dC, dI) [(h0, .inr (0, [.int 1, .ref h1, .int 1])), (h1, .inl (kc0, 10, .inr (.inr (.inr (.inr (va_up (fun _ => none) 0 (some o0)))))))] [(kc0, .object "java/lang/Object")] (va_A [(h0, .inr (0, [.int 1, .ref h1, .int 1])), (h1, .inl (kc0, 10, .inr (.inr (.inr (.inr (va_up (fun _ => none) 0 (some o0)))))))] sz) sz 0 t) (va_A [(h0, .inr (0, [.int 1, .ref h1, .int 1])), (h1, .inl (kc0, 10, .inr (.inr (.inr (.inr (va_up (fun _ => none) 0 (some o0)))))))] sz)) 0 0 (va_A [(h0, .inr (0, [.int 1, .ref h1, .int 1])), (h1, .inl (kc0, 10, .inr (.inr (.inr (.inr (va_up (fun _ => none) 0 (some o0)))))))] sz) := by
  refine Met.ofW (cc := cJx4a65c_elementData_915e3) (maxL := 2) (ret := (some (.object "java/lang/Object"))) (by decide) rfl ?_
  intro p e s m args below meth c s₁ B hml hv
  obtain ⟨rfl, hsz, hP, hK, hD0, hX, hT⟩ := hv
  have hx := B.exec
  have hb := B.bytes
  have hr := B.returns
  have hts0 := atoms_spec (ws := .code yJx4a65c_elementData_915e3 cJx4a65c_elementData_915e3 2 (some (.object "java/lang/Object")) :: wsL_law) B.pre
  have hts := xTail hts0
  have hown : s.vm.findClass RJx4a65c = some m.cls := findClass_of_methodNamed B.named
  have hlocks := B.notSynchronized
  subst hsz
  have hD := hD0.self (sz := s.heap.size)
  generalize hAe : va_A [(h0, .inr (0, [.int 1, .ref h1, .int 1])), (h1, .inl (kc0, 10, .inr (.inr (.inr (.inr (va_up (fun _ => none) 0 (some o0)))))))] s.heap.size = A at hD hX ⊢
  have hA : ∀ q : Nat, s.heap.size ≤ q → A q := fun q h => by rw [← hAe]; exact Or.inr h
  have hS : va_S A s.heap s.heap [] := va_S.rf
  have hG : s.heap.size + 0 ≤ s.heap.size := Nat.le_refl _
  have hl := lv_entry ([.ref h0, .int 0]) (n := 2) (Nat.le_of_ble_eq_true rfl)
  rw [lg_entry_eq]
  generalize (lg_sl ([.ref h0, .int 0]) ++ List.replicate (2 - (lg_sl ([.ref h0, .int 0])).length) Slot.unset).toArray = ls at hl ⊢
  have hl : lv_has ls 2 [(0, .ref h0), (1, .int 0)] := hl
  refine lv_aload_n hx hb dJx4a65c_elementData_915e3_0 rfl (lv_at hl 0 rfl) ?_
  refine va_get (D := (dC, dI)) (ci := 0) (v := .ref h1) (C := RJx4a65c) (T := TJx4a65c) (N := 3) hx hb hts in_Jx4a65c hown hK hP 0 rfl rfl 1 (by decide) (hts _ q_24) (fun _ h9 => h9) rfl dJx4a65c_elementData_915e3_1 ?_
  refine lv_iload_n hx hb dJx4a65c_elementData_915e3_4 rfl (lv_at hl 1 rfl) ?_
  refine va_aldq hx hb hK hP 1 0 rfl rfl (i := 0) (by unfold vp_in; decide) dJx4a65c_elementData_915e3_5 ?_
  refine W.eq (g2 := F0 m 6 ls [.ref o0]) rfl ?_
  exact W.aret (v := .ref o0) hx hb hr (by first | exact Or.inl ⟨_, rfl⟩ | exact Or.inr ⟨_, rfl⟩) (Or.inr ⟨_, rfl⟩) (fun t9 ht9 hW9 => ⟨⟨(), o0, rfl, trivial, ⟨rfl, ⟨pq_mk (wc := [(h0, .inr (0, [.int 1, .ref h1, .int 1])), (h1, .inl (kc0, 10, .inr (.inr (.inr (.inr (va_up (fun _ => none) 0 (some o0)))))))]) (tc := [(kc0, .object "java/lang/Object")]) hP hD hK [0, 1] [0] rfl rfl rfl rfl ht9 hW9, by rw [ht9]; exact Nat.le_trans (Nat.add_le_add_left (Nat.le_of_ble_eq_true rfl) _) hG⟩⟩⟩, hS.F ht9⟩) hS.2.2 dJx4a65c_elementData_915e3_6

set_option maxHeartbeats 4000000 in
set_option maxRecDepth 100000 in
theorem k24_get (l : Launch) (hl9 : l.stackTraces = false) (dC : Nat → ClassId) (dI : Nat → Nat → Nat) (z : XZ) (h0 h1 : Nat) (o0 : Nat) (sz : Nat) (kc0 : ClassId) : Met l yJx4a65c_get_915e3 (.code yJx4a65c_get_915e3 cJx4a65c_get_915e3 2 (some (.object "java/lang/Object")) :: wsL_law) ({ frames := 2, cells := 0, slots := 0, locals := 43 }) (va_Pc [.ref h0, .int 0] (PC (dC, dI) [(h0, .inr (0, [.int 1, .ref h1, .int 1])), (h1, .inl (kc0, 10, .inr (.inr (.inr (.inr (va_up (fun _ => none) 0 (some o0)))))))] [(kc0, .object "java/lang/Object")] sz z)) (va_Qr (fun (_ : Unit) => True) (fun (_ : Unit) (ra : Nat) (t : State) => ra = o0 ∧ PG (dC, dI) [(h0, .inr (0, [.int 1, .ref h1, .int 1])), (h1, .inl (kc0, 10, .inr (.inr (.inr (.inr (va_up (fun _ => none) 0 (some o0)))))))] [(kc0, .object "java/lang/Object")] (va_A [(h0, .inr (0, [.int 1, .ref h1, .int 1])), (h1, .inl (kc0, 10, .inr (.inr (.inr (.inr (va_up (fun _ => none) 0 (some o0)))))))] sz) sz 0 t) (va_A [(h0, .inr (0, [.int 1, .ref h1, .int 1])), (h1, .inl (kc0, 10, .inr (.inr (.inr (.inr (va_up (fun _ => none) 0 (some o0)))))))] sz)) 0 0 (va_A [(h0, .inr (0, [.int 1, .ref h1, .int 1])), (h1, .inl (kc0, 10, .inr (.inr (.inr (.inr (va_up (fun _ => none) 0 (some o0)))))))] sz) := by
  refine Met.ofW (cc := cJx4a65c_get_915e3) (maxL := 2) (ret := (some (.object "java/lang/Object"))) (by decide) rfl ?_
  intro p e s m args below meth c s₁ B hml hv
  obtain ⟨rfl, hsz, hP, hK, hD0, hX, hT⟩ := hv
  have hx := B.exec
  have hb := B.bytes
  have hr := B.returns
  have hts0 := atoms_spec (ws := .code yJx4a65c_get_915e3 cJx4a65c_get_915e3 2 (some (.object "java/lang/Object")) :: wsL_law) B.pre
  have hts := xTail hts0
  have hown : s.vm.findClass RJx4a65c = some m.cls := findClass_of_methodNamed B.named
  have hlocks := B.notSynchronized
  subst hsz
  have hD := hD0.self (sz := s.heap.size)
  generalize hAe : va_A [(h0, .inr (0, [.int 1, .ref h1, .int 1])), (h1, .inl (kc0, 10, .inr (.inr (.inr (.inr (va_up (fun _ => none) 0 (some o0)))))))] s.heap.size = A at hD hX ⊢
  have hA : ∀ q : Nat, s.heap.size ≤ q → A q := fun q h => by rw [← hAe]; exact Or.inr h
  have hS : va_S A s.heap s.heap [] := va_S.rf
  have hG : s.heap.size + 0 ≤ s.heap.size := Nat.le_refl _
  have hl := lv_entry ([.ref h0, .int 0]) (n := 2) (Nat.le_of_ble_eq_true rfl)
  rw [lg_entry_eq]
  generalize (lg_sl ([.ref h0, .int 0]) ++ List.replicate (2 - (lg_sl ([.ref h0, .int 0])).length) Slot.unset).toArray = ls at hl ⊢
  have hl : lv_has ls 2 [(0, .ref h0), (1, .int 0)] := hl
  refine lv_iload_n hx hb dJx4a65c_get_915e3_0 rfl (lv_at hl 1 rfl) ?_
  refine lv_aload_n hx hb dJx4a65c_get_915e3_1 rfl (lv_at hl 0 rfl) ?_
  refine va_get (D := (dC, dI)) (ci := 0) (v := .int 1) (C := RJx4a65c) (T := TJx4a65c) (N := 3) hx hb hts in_Jx4a65c hown hK hP 0 rfl rfl 2 (by decide) (hts _ q_74) (fun _ h9 => h9) rfl dJx4a65c_get_915e3_2 ?_
  have hF1 := va_free (wc := []) hD hS hA [] rfl
  refine va_calli (va_runS (As := [.int 0, .int 1]) (rest := []) ⟨hx, hb, hml, hown, hts⟩ (k22_checkIndex l hl9 dC dI z s.heap.size) (va_cwS 2 hts (gS q_148 q_149 q_150 q_147) rfl rfl rfl (by decide +kernel) ⟨Nat.le_of_ble_eq_true rfl, Nat.le_of_ble_eq_true rfl⟩) ⟨pc_blind, fun U hU hW => ⟨rfl, pc_mk hP hD hK hS hX hT [] [] rfl rfl rfl rfl hF1 hU hW⟩⟩ rfl rfl hl.1 rfl (lv_room (Nat.le_of_ble_eq_true rfl)) dJx4a65c_get_915e3_5 ⟨(Nat.le_of_ble_eq_true rfl), (Nat.le_of_ble_eq_true rfl)⟩) hS (fun q9 _ h9 => hF1 q9 h9) hF1 (fun r4 u3 t3 H3 L3 ht3 hvm3 hw3 hB3 hz3 hk3 hS => ?_)
  obtain ⟨hP, hD, hK⟩ := pq_join (wr := [(h0, .inr (0, [.int 1, .ref h1, .int 1])), (h1, .inl (kc0, 10, .inr (.inr (.inr (.inr (va_up (fun _ => none) 0 (some o0)))))))]) (tr := [(kc0, .object "java/lang/Object")]) (wz := [(h0, .inr (0, [.int 1, .ref h1, .int 1])), (h1, .inl (kc0, 10, .inr (.inr (.inr (.inr (va_up (fun _ => none) 0 (some o0)))))))]) (tz := [(kc0, .object "java/lang/Object")]) hP hD hK [] [0, 1] [0] rfl rfl (by decide) (by decide) rfl hk3 hF1 hB3.1 ht3 hvm3 rfl rfl
  have hG : s.heap.size + 0 ≤ H3.size := Nat.le_trans hG hz3
  refine W.eq (g2 := F0 m 8 ls [.int 0]) (by rw [hw3]) ?_
  refine lv_pop hx hb dJx4a65c_get_915e3_8 rfl ?_
  refine lv_aload_n hx hb dJx4a65c_get_915e3_9 rfl (lv_at hl 0 rfl) ?_
  refine lv_iload_n hx hb dJx4a65c_get_915e3_10 rfl (lv_at hl 1 rfl) ?_
  have hF5 := va_free (wc := [(h0, .inr (0, [.int 1, .ref h1, .int 1])), (h1, .inl (kc0, 10, .inr (.inr (.inr (.inr (va_up (fun _ => none) 0 (some o0)))))))]) hD hS hA [0, 1] rfl
  refine va_callr (va_runV (As := [.int 0]) (rest := []) ⟨hx, hb, hml, hown, hts⟩ (k23_elementData l hl9 dC dI z h0 h1 o0 H3.size kc0) (cwV 1 hts (gV q_152 q_153 q_154 q_12 q_151) rfl rfl rfl (by decide +kernel) ⟨Nat.le_of_ble_eq_true rfl, Nat.le_of_ble_eq_true rfl⟩) ⟨pc_blind, va_recv hK hP (ci := 0) (q0 := 0) rfl rfl, fun U hU hW => ⟨rfl, pc_mk hP hD hK hS hX hT [0, 1] [0] rfl rfl rfl rfl hF5 hU hW⟩⟩ rfl rfl hl.1 rfl (lv_room (Nat.le_of_ble_eq_true rfl)) dJx4a65c_get_915e3_11 ⟨(Nat.le_of_ble_eq_true rfl), (Nat.le_of_ble_eq_true rfl)⟩) hS (fun q9 _ h9 => hF5 q9 h9) hF5 (fun u7 r8 t7 H7 L7 ht7 hvm7 hw7 hB7 hz7 hk7 hS => ?_)
  obtain ⟨hr7, hB7⟩ := hB7
  obtain ⟨hP, hD, hK⟩ := pq_join (wr := []) (tr := []) (wz := [(h0, .inr (0, [.int 1, .ref h1, .int 1])), (h1, .inl (kc0, 10, .inr (.inr (.inr (.inr (va_up (fun _ => none) 0 (some o0)))))))]) (tz := [(kc0, .object "java/lang/Object")]) hP hD hK [0, 1] [] [] rfl rfl (by decide) (by decide) rfl hk7 hF5 hB7.1 ht7 hvm7 rfl rfl
  have hG : s.heap.size + 0 ≤ H7.size := Nat.le_trans hG hz7
  refine W.eq (g2 := F0 m 14 ls [.ref o0]) (by rw [hr7]) ?_
  exact W.aret (v := .ref o0) hx hb hr (by first | exact Or.inl ⟨_, rfl⟩ | exact Or.inr ⟨_, rfl⟩) (Or.inr ⟨_, rfl⟩) (fun t9 ht9 hW9 => ⟨⟨(), o0, rfl, trivial, ⟨rfl, ⟨pq_mk (wc := [(h0, .inr (0, [.int 1, .ref h1, .int 1])), (h1, .inl (kc0, 10, .inr (.inr (.inr (.inr (va_up (fun _ => none) 0 (some o0)))))))]) (tc := [(kc0, .object "java/lang/Object")]) hP hD hK [0, 1] [0] rfl rfl rfl rfl ht9 hW9, by rw [ht9]; exact Nat.le_trans (Nat.add_le_add_left (Nat.le_of_ble_eq_true rfl) _) hG⟩⟩⟩, hS.F ht9⟩) hS.2.2 dJx4a65c_get_915e3_14

set_option maxHeartbeats 4000000 in
set_option maxRecDepth 100000 in
theorem k25_readsOnlyPlaced (l : Launch) (hl9 : l.stackTraces = false) (dC : Nat → ClassId) (dI : Nat → Nat → Nat) (z : XZ) (h0 h1 : Nat) (sz : Nat) : Met l yX2_readsOnlyPlaced (.code yX2_readsOnlyPlaced cX2_readsOnlyPlaced 3 (some .boolean) :: wsL_law) ({ frames := 1, cells := 0, slots := 0, locals := 20 }) (va_Pc [.ref h0] (PC (dC, dI) [(h0, .inr (3, [.int 0, .ref (z.2.1 0), .ref h1, .null, .int 0, .int 0, .int 120, .int 120, .int 0, .int 0, .int 0, .int 120, .int 120, .int 0, .int 0, .int 0, .ref h0, .int 0, .int 0])), (h1, .inr (0, [.int 0, .ref z.1, .int 0]))] [] sz z)) (va_Qi (fun (r : Int32) (_ : Unit) => r = 1) (fun (_ : Unit) (t : State) => PG (dC, dI) [(h0, .inr (3, [.int 0, .ref (z.2.1 0), .ref h1, .null, .int 0, .int 0, .int 120, .int 120, .int 0, .int 0, .int 0, .int 120, .int 120, .int 0, .int 0, .int 0, .ref h0, .int 0, .int 0])), (h1, .inr (0, [.int 0, .ref z.1, .int 0]))] [] (va_A [(h0, .inr (3, [.int 0, .ref (z.2.1 0), .ref h1, .null, .int 0, .int 0, .int 120, .int 120, .int 0, .int 0, .int 0, .int 120, .int 120, .int 0, .int 0, .int 0, .ref h0, .int 0, .int 0])), (h1, .inr (0, [.int 0, .ref z.1, .int 0]))] sz) sz 0 t) (va_A [(h0, .inr (3, [.int 0, .ref (z.2.1 0), .ref h1, .null, .int 0, .int 0, .int 120, .int 120, .int 0, .int 0, .int 0, .int 120, .int 120, .int 0, .int 0, .int 0, .ref h0, .int 0, .int 0])), (h1, .inr (0, [.int 0, .ref z.1, .int 0]))] sz)) 0 0 (va_A [(h0, .inr (3, [.int 0, .ref (z.2.1 0), .ref h1, .null, .int 0, .int 0, .int 120, .int 120, .int 0, .int 0, .int 0, .int 120, .int 120, .int 0, .int 0, .int 0, .ref h0, .int 0, .int 0])), (h1, .inr (0, [.int 0, .ref z.1, .int 0]))] sz) := by
  refine Met.ofW (cc := cX2_readsOnlyPlaced) (maxL := 3) (ret := (some .boolean)) (by decide) rfl ?_
  intro p e s m args below meth c s₁ B hml hv
  obtain ⟨rfl, hsz, hP, hK, hD0, hX, hT⟩ := hv
  have hx := B.exec
  have hb := B.bytes
  have hr := B.returns
  have hts0 := atoms_spec (ws := .code yX2_readsOnlyPlaced cX2_readsOnlyPlaced 3 (some .boolean) :: wsL_law) B.pre
  have hts := xTail hts0
  have hown : s.vm.findClass RX2 = some m.cls := findClass_of_methodNamed B.named
  have hlocks := B.notSynchronized
  subst hsz
  have hD := hD0.self (sz := s.heap.size)
  generalize hAe : va_A [(h0, .inr (3, [.int 0, .ref (z.2.1 0), .ref h1, .null, .int 0, .int 0, .int 120, .int 120, .int 0, .int 0, .int 0, .int 120, .int 120, .int 0, .int 0, .int 0, .ref h0, .int 0, .int 0])), (h1, .inr (0, [.int 0, .ref z.1, .int 0]))] s.heap.size = A at hD hX ⊢
  have hA : ∀ q : Nat, s.heap.size ≤ q → A q := fun q h => by rw [← hAe]; exact Or.inr h
  have hS : va_S A s.heap s.heap [] := va_S.rf
  have hG : s.heap.size + 0 ≤ s.heap.size := Nat.le_refl _
  have hl := lv_entry ([.ref h0]) (n := 3) (Nat.le_of_ble_eq_true rfl)
  rw [lg_entry_eq]
  generalize (lg_sl ([.ref h0]) ++ List.replicate (3 - (lg_sl ([.ref h0])).length) Slot.unset).toArray = ls at hl ⊢
  have hl : lv_has ls 3 [(0, .ref h0)] := hl
  refine lv_iconst (v := 0) hx hb dX2_readsOnlyPlaced_0 (by decide) ?_
  refine lv_istore_n (lv' := [(1, .int 0), (0, .ref h0)]) hx hb dX2_readsOnlyPlaced_1 rfl hl (by decide) rfl (fun ls hl => ?_)
  refine lv_iload_n hx hb dX2_readsOnlyPlaced_2 rfl (lv_at hl 0 rfl) ?_
  refine lv_aload_n hx hb dX2_readsOnlyPlaced_3 rfl (lv_at hl 1 rfl) ?_
  refine va_get (D := (dC, dI)) (ci := 3) (v := .ref h1) (C := RX2) (T := TX2) (N := 19) hx hb hts in_X2 hown hK hP 0 rfl rfl 2 (by decide) (hts _ q_96) (fun _ h9 => h9) rfl dX2_readsOnlyPlaced_4 ?_
  have hF1 := va_free (wc := [(h1, .inr (0, [.int 0, .ref z.1, .int 0]))]) hD hS hA [1] rfl
  refine va_calli (va_runV (As := []) (rest := [.int 0]) ⟨hx, hb, hml, hown, hts⟩ (k9_size l hl9 dC dI z h1 s.heap.size 0 0) (cwV 0 hts (gV q_160 q_77 q_78 q_12 q_75) rfl rfl rfl (by decide +kernel) ⟨Nat.le_of_ble_eq_true rfl, Nat.le_of_ble_eq_true rfl⟩) ⟨pc_blind, va_recv hK hP (ci := 0) (q0 := 1) rfl rfl, fun U hU hW => ⟨rfl, pc_mk hP hD hK hS hX hT [1] [] rfl rfl rfl rfl hF1 hU hW⟩⟩ rfl rfl hl.1 rfl (lv_room (Nat.le_of_ble_eq_true rfl)) dX2_readsOnlyPlaced_7 ⟨(Nat.le_of_ble_eq_true rfl), (Nat.le_of_ble_eq_true rfl)⟩) hS (fun q9 _ h9 => hF1 q9 h9) hF1 (fun r4 u3 t3 H3 L3 ht3 hvm3 hw3 hB3 hz3 hk3 hS => ?_)
  obtain ⟨hP, hD, hK⟩ := pq_join (wr := [(h0, .inr (3, [.int 0, .ref (z.2.1 0), .ref h1, .null, .int 0, .int 0, .int 120, .int 120, .int 0, .int 0, .int 0, .int 120, .int 120, .int 0, .int 0, .int 0, .ref h0, .int 0, .int 0]))]) (tr := []) (wz := [(h0, .inr (3, [.int 0, .ref (z.2.1 0), .ref h1, .null, .int 0, .int 0, .int 120, .int 120, .int 0, .int 0, .int 0, .int 120, .int 120, .int 0, .int 0, .int 0, .ref h0, .int 0, .int 0])), (h1, .inr (0, [.int 0, .ref z.1, .int 0]))]) (tz := []) hP hD hK [1] [0] [] rfl rfl (by decide) (by decide) rfl hk3 hF1 hB3.1 ht3 hvm3 rfl rfl
  have hG : s.heap.size + 0 ≤ H3.size := Nat.le_trans hG hz3
  refine W.eq (g2 := F0 m 10 ls [.int 0, .int 0]) (by rw [hw3]) ?_
  refine lv_icmp_ge (tgt := 53) hx hb dX2_readsOnlyPlaced_10 (by decide) (fun _ => ?_) (fun cz => absurd (by decide) cz)
  refine lv_iconst (v := 1) hx hb dX2_readsOnlyPlaced_53 (by decide) ?_
  exact W.zret (v := 1) (ty := .boolean) hx hb hr rfl (fun t9 ht9 hW9 => ⟨⟨1, (), rfl, rfl, ⟨pq_mk (wc := [(h0, .inr (3, [.int 0, .ref (z.2.1 0), .ref h1, .null, .int 0, .int 0, .int 120, .int 120, .int 0, .int 0, .int 0, .int 120, .int 120, .int 0, .int 0, .int 0, .ref h0, .int 0, .int 0])), (h1, .inr (0, [.int 0, .ref z.1, .int 0]))]) (tc := []) hP hD hK [0, 1] [] rfl rfl rfl rfl ht9 hW9, by rw [ht9]; exact Nat.le_trans (Nat.add_le_add_left (Nat.le_of_ble_eq_true rfl) _) hG⟩⟩, hS.F ht9⟩) hS.2.2 dX2_readsOnlyPlaced_54

set_option maxHeartbeats 4000000 in
set_option maxRecDepth 100000 in
theorem k26_grow (l : Launch) (hl9 : l.stackTraces = false) (dC : Nat → ClassId) (dI : Nat → Nat → Nat) (z : XZ) (h0 : Nat) (sz : Nat) : Met l yJx4a65c_grow_92f84 (.code yJx4a65c_grow_92f84 cJx4a65c_grow_92f84 4 (some (.array (.object "java/lang/Object"))) :: wsL_law) ({ frames := 1, cells := 1, slots := 10, locals := 22 }) (va_Pc [.ref h0, .int 1] (PC (dC, dI) [(h0, .inr (0, [.int 2, .ref z.1, .int 0]))] [] sz z)) (va_Qr (fun (_ : Unit) => True) (fun (_ : Unit) (ra : Nat) (t : State) => ∃ (n0 : Nat), ∃ (m0 : ClassId), ra = n0 ∧ PG (dC, dI) [(h0, .inr (0, [.int 2, .ref n0, .int 0])), (n0, .inl (m0, 10, .inr (.inr (.inr (.inr (fun _ => none))))))] [(m0, .object "java/lang/Object")] (va_A [(h0, .inr (0, [.int 2, .ref z.1, .int 0]))] sz) sz 1 t) (va_A [(h0, .inr (0, [.int 2, .ref z.1, .int 0]))] sz)) 1 10 (va_A [(h0, .inr (0, [.int 2, .ref z.1, .int 0]))] sz) := by
  refine Met.ofW (cc := cJx4a65c_grow_92f84) (maxL := 4) (ret := (some (.array (.object "java/lang/Object")))) (by decide) rfl ?_
  intro p e s m args below meth c s₁ B hml hv
  obtain ⟨rfl, hsz, hP, hK, hD0, hX, hT⟩ := hv
  have hx := B.exec
  have hb := B.bytes
  have hr := B.returns
  have hts0 := atoms_spec (ws := .code yJx4a65c_grow_92f84 cJx4a65c_grow_92f84 4 (some (.array (.object "java/lang/Object"))) :: wsL_law) B.pre
  have hts := xTail hts0
  have hown : s.vm.findClass RJx4a65c = some m.cls := findClass_of_methodNamed B.named
  have hlocks := B.notSynchronized
  subst hsz
  have hD := hD0.self (sz := s.heap.size)
  generalize hAe : va_A [(h0, .inr (0, [.int 2, .ref z.1, .int 0]))] s.heap.size = A at hD hX ⊢
  have hA : ∀ q : Nat, s.heap.size ≤ q → A q := fun q h => by rw [← hAe]; exact Or.inr h
  have hS : va_S A s.heap s.heap [] := va_S.rf
  have hG : s.heap.size + 0 ≤ s.heap.size := Nat.le_refl _
  have hl := lv_entry ([.ref h0, .int 1]) (n := 4) (Nat.le_of_ble_eq_true rfl)
  rw [lg_entry_eq]
  generalize (lg_sl ([.ref h0, .int 1]) ++ List.replicate (4 - (lg_sl ([.ref h0, .int 1])).length) Slot.unset).toArray = ls at hl ⊢
  have hl : lv_has ls 4 [(0, .ref h0), (1, .int 1)] := hl
  refine lv_aload_n hx hb dJx4a65c_grow_92f84_0 rfl (lv_at hl 0 rfl) ?_
  refine va_get (D := (dC, dI)) (ci := 0) (v := .ref z.1) (C := RJx4a65c) (T := TJx4a65c) (N := 3) hx hb hts in_Jx4a65c hown hK hP 0 rfl rfl 1 (by decide) (hts _ q_24) (fun _ h9 => h9) rfl dJx4a65c_grow_92f84_1 ?_
  refine va_tlen hx hb hX.1.2 hS (v := 0) rfl dJx4a65c_grow_92f84_4 ?_
  refine lv_istore_n (lv' := [(2, .int 0), (0, .ref h0), (1, .int 1)]) hx hb dJx4a65c_grow_92f84_5 rfl hl (by decide) rfl (fun ls hl => ?_)
  refine lv_iload_n hx hb dJx4a65c_grow_92f84_6 rfl (lv_at hl 0 rfl) ?_
  refine lv_if_gt (tgt := 20) hx hb dJx4a65c_grow_92f84_7 (by decide) (fun cz => absurd cz (by decide)) (fun _ => ?_)
  refine lv_aload_n hx hb dJx4a65c_grow_92f84_10 rfl (lv_at hl 1 rfl) ?_
  refine va_get (D := (dC, dI)) (ci := 0) (v := .ref z.1) (C := RJx4a65c) (T := TJx4a65c) (N := 3) hx hb hts in_Jx4a65c hown hK hP 0 rfl rfl 1 (by decide) (hts _ q_24) (fun _ h9 => h9) rfl dJx4a65c_grow_92f84_11 ?_
  refine va_gets (own := RJx4a65c) (ref := "java/util/ArrayList") hx hb hX.1.1 hS hown (hts _ q_23) (fun _ h9 => h9) dJx4a65c_grow_92f84_14 ?_
  refine lv_acmp_eq (rx := (some z.1)) (ry := (some z.1)) (tgt := 45) hx hb dJx4a65c_grow_92f84_17 (by decide) (fun _ => ?_) (fun cz => absurd rfl cz)
  refine lv_aload_n hx hb dJx4a65c_grow_92f84_45 rfl (lv_at hl 1 rfl) ?_
  refine lv_bipush (v := 10) hx hb dJx4a65c_grow_92f84_46 (by decide) ?_
  refine lv_iload_n hx hb dJx4a65c_grow_92f84_48 rfl (lv_at hl 2 rfl) ?_
  refine va_mmax hx hb (hml.trans hl.1.symm) hown (hts _ q_109) (hts _ q_110) (hts _ q_111) (hts _ q_112) (Nat.le_of_ble_eq_true rfl) (Nat.le_of_ble_eq_true rfl) (Nat.le_of_ble_eq_true rfl) (Nat.le_of_ble_eq_true rfl) dJx4a65c_grow_92f84_49 ?_
  refine lv_topi (fun y1 ey1 => ?_)
  obtain rfl : y1 = 10 := ey1.trans (by decide)
  refine xa_newq (C := "java/lang/Object") hx hb hown (hts _ q_113) hT.2.2.2.1 hK hP hD hS hA (n := 10) (N' := 10) (by decide) (by decide) (Nat.le_of_ble_eq_true rfl) (Nat.le_of_ble_eq_true rfl) (Nat.le_of_ble_eq_true rfl) dJx4a65c_grow_92f84_52 (fun a2 k3 H4 hg8 hK hP hD hS => ?_)
  have hG : s.heap.size + 1 ≤ H4.size := by rw [hg8]; exact Nat.succ_le_succ hG
  have hK : va_K (dC, dI) xCl [(k3, .object "java/lang/Object")] s := hK
  have hP : va_P (dC, dI) xCl [(h0, .inr (0, [.int 2, .ref z.1, .int 0])), (a2, .inl (k3, 10, .inr (.inr (.inr (.inr (fun _ => none))))))] H4 := hP
  have hD : va_D A [(h0, .inr (0, [.int 2, .ref z.1, .int 0])), (a2, .inl (k3, 10, .inr (.inr (.inr (.inr (fun _ => none))))))] := hD
  refine lv_dup_x1 hx hb dJx4a65c_grow_92f84_55 rfl rfl ?_
  refine va_put (D := (dC, dI)) (ci := 0) (v := .ref a2) (ty := .array (.object "java/lang/Object")) (C := RJx4a65c) (T := TJx4a65c) (N := 3) hx hb hts in_Jx4a65c tyJx4a65c tyJx4a65c_ok nmJx4a65c hown hK hP hD (va_Sre hS) 0 rfl rfl 1 (by decide) (hts _ q_24) (fun _ h9 => h9) rfl (by decide +kernel) rfl rfl (Nat.le_of_ble_eq_true rfl) dJx4a65c_grow_92f84_56 (fun H5 _ hP hD hS' => ?_)
  have hG : s.heap.size + 1 ≤ H5.size := Nat.le_trans hG hS'.1
  have hS := va_Str hS hS'
  have hP : va_P (dC, dI) xCl [(h0, .inr (0, [.int 2, .ref a2, .int 0])), (a2, .inl (k3, 10, .inr (.inr (.inr (.inr (fun _ => none))))))] H5 := hP
  have hD : va_D A [(h0, .inr (0, [.int 2, .ref a2, .int 0])), (a2, .inl (k3, 10, .inr (.inr (.inr (.inr (fun _ => none))))))] := hD
  exact W.aret (v := .ref a2) hx hb hr (by first | exact Or.inl ⟨_, rfl⟩ | exact Or.inr ⟨_, rfl⟩) (Or.inr ⟨_, rfl⟩) (fun t9 ht9 hW9 => ⟨⟨(), a2, rfl, trivial, ⟨a2, k3, rfl, ⟨pq_mk (wc := [(h0, .inr (0, [.int 2, .ref a2, .int 0])), (a2, .inl (k3, 10, .inr (.inr (.inr (.inr (fun _ => none))))))]) (tc := [(k3, .object "java/lang/Object")]) hP hD hK [0, 1] [0] rfl rfl rfl rfl ht9 hW9, by rw [ht9]; exact Nat.le_trans (Nat.add_le_add_left (Nat.le_of_ble_eq_true rfl) _) hG⟩⟩⟩, hS.F ht9⟩) hS.2.2 dJx4a65c_grow_92f84_59

set_option maxHeartbeats 4000000 in
set_option maxRecDepth 100000 in
theorem k27_grow (l : Launch) (hl9 : l.stackTraces = false) (dC : Nat → ClassId) (dI : Nat → Nat → Nat) (z : XZ) (h0 : Nat) (sz : Nat) : Met l yJx4a65c_grow_d5877 (.code yJx4a65c_grow_d5877 cJx4a65c_grow_d5877 1 (some (.array (.object "java/lang/Object"))) :: wsL_law) ({ frames := 2, cells := 1, slots := 10, locals := 45 }) (va_Pc [.ref h0] (PC (dC, dI) [(h0, .inr (0, [.int 2, .ref z.1, .int 0]))] [] sz z)) (va_Qr (fun (_ : Unit) => True) (fun (_ : Unit) (ra : Nat) (t : State) => ∃ (n0 : Nat), ∃ (m0 : ClassId), ra = n0 ∧ PG (dC, dI) [(h0, .inr (0, [.int 2, .ref n0, .int 0])), (n0, .inl (m0, 10, .inr (.inr (.inr (.inr (fun _ => none))))))] [(m0, .object "java/lang/Object")] (va_A [(h0, .inr (0, [.int 2, .ref z.1, .int 0]))] sz) sz 1 t) (va_A [(h0, .inr (0, [.int 2, .ref z.1, .int 0]))] sz)) 1 10 (va_A [(h0, .inr (0, [.int 2, .ref z.1, .int 0]))] sz) := by
  refine Met.ofW (cc := cJx4a65c_grow_d5877) (maxL := 1) (ret := (some (.array (.object "java/lang/Object")))) (by decide) rfl ?_
  intro p e s m args below meth c s₁ B hml hv
  obtain ⟨rfl, hsz, hP, hK, hD0, hX, hT⟩ := hv
  have hx := B.exec
  have hb := B.bytes
  have hr := B.returns
  have hts0 := atoms_spec (ws := .code yJx4a65c_grow_d5877 cJx4a65c_grow_d5877 1 (some (.array (.object "java/lang/Object"))) :: wsL_law) B.pre
  have hts := xTail hts0
  have hown : s.vm.findClass RJx4a65c = some m.cls := findClass_of_methodNamed B.named
  have hlocks := B.notSynchronized
  subst hsz
  have hD := hD0.self (sz := s.heap.size)
  generalize hAe : va_A [(h0, .inr (0, [.int 2, .ref z.1, .int 0]))] s.heap.size = A at hD hX ⊢
  have hA : ∀ q : Nat, s.heap.size ≤ q → A q := fun q h => by rw [← hAe]; exact Or.inr h
  have hS : va_S A s.heap s.heap [] := va_S.rf
  have hG : s.heap.size + 0 ≤ s.heap.size := Nat.le_refl _
  have hl := lv_entry ([.ref h0]) (n := 1) (Nat.le_of_ble_eq_true rfl)
  rw [lg_entry_eq]
  generalize (lg_sl ([.ref h0]) ++ List.replicate (1 - (lg_sl ([.ref h0])).length) Slot.unset).toArray = ls at hl ⊢
  have hl : lv_has ls 1 [(0, .ref h0)] := hl
  refine lv_aload_n hx hb dJx4a65c_grow_d5877_0 rfl (lv_at hl 0 rfl) ?_
  refine lv_aload_n hx hb dJx4a65c_grow_d5877_1 rfl (lv_at hl 0 rfl) ?_
  refine va_get (D := (dC, dI)) (ci := 0) (v := .int 0) (C := RJx4a65c) (T := TJx4a65c) (N := 3) hx hb hts in_Jx4a65c hown hK hP 0 rfl rfl 2 (by decide) (hts _ q_74) (fun _ h9 => h9) rfl dJx4a65c_grow_d5877_2 ?_
  refine lv_iconst (v := 1) hx hb dJx4a65c_grow_d5877_5 (by decide) ?_
  refine lv_iadd hx hb dJx4a65c_grow_d5877_6 ?_
  refine lv_topi (fun y1 ey1 => ?_)
  obtain rfl : y1 = 1 := ey1.trans (by decide)
  have hF2 := va_free (wc := [(h0, .inr (0, [.int 2, .ref z.1, .int 0]))]) hD hS hA [0] rfl
  refine va_callr (va_runV (As := [.int 1]) (rest := []) ⟨hx, hb, hml, hown, hts⟩ (k26_grow l hl9 dC dI z h0 s.heap.size) (cwV 1 hts (gV q_115 q_116 q_117 q_12 q_114) rfl rfl rfl (by decide +kernel) ⟨Nat.le_of_ble_eq_true rfl, Nat.le_of_ble_eq_true rfl⟩) ⟨pc_blind, va_recv hK hP (ci := 0) (q0 := 0) rfl rfl, fun U hU hW => ⟨rfl, pc_mk hP hD hK hS hX hT [0] [] rfl rfl rfl rfl hF2 hU hW⟩⟩ rfl rfl hl.1 rfl (lv_room (Nat.le_of_ble_eq_true rfl)) dJx4a65c_grow_d5877_7 ⟨(Nat.le_of_ble_eq_true rfl), (Nat.le_of_ble_eq_true rfl)⟩) hS (fun q9 _ h9 => hF2 q9 h9) hF2 (fun u4 r5 t4 H4 L4 ht4 hvm4 hw4 hB4 hz4 hk4 hS => ?_)
  obtain ⟨a6, k7, hr4, hB4⟩ := hB4
  obtain ⟨hP, hD, hK⟩ := pq_join (wr := []) (tr := []) (wz := [(h0, .inr (0, [.int 2, .ref a6, .int 0])), (a6, .inl (k7, 10, .inr (.inr (.inr (.inr (fun _ => none))))))]) (tz := [(k7, .object "java/lang/Object")]) hP hD hK [0] [] [] rfl rfl (by decide) (by decide) rfl hk4 hF2 hB4.1 ht4 hvm4 rfl rfl
  have hG : s.heap.size + 1 ≤ H4.size := va_gr (g := 0) (g1 := 1) hG (by rw [← ht4]; exact hB4.2)
  refine W.eq (g2 := F0 m 10 ls [.ref a6]) (by rw [hr4]) ?_
  refine W.widen (k := 1) (n := 10) (by decide) (by decide) ?_
  exact W.aret (v := .ref a6) hx hb hr (by first | exact Or.inl ⟨_, rfl⟩ | exact Or.inr ⟨_, rfl⟩) (Or.inr ⟨_, rfl⟩) (fun t9 ht9 hW9 => ⟨⟨(), a6, rfl, trivial, ⟨a6, k7, rfl, ⟨pq_mk (wc := [(h0, .inr (0, [.int 2, .ref a6, .int 0])), (a6, .inl (k7, 10, .inr (.inr (.inr (.inr (fun _ => none))))))]) (tc := [(k7, .object "java/lang/Object")]) hP hD hK [0, 1] [0] rfl rfl rfl rfl ht9 hW9, by rw [ht9]; exact Nat.le_trans (Nat.add_le_add_left (Nat.le_of_ble_eq_true rfl) _) hG⟩⟩⟩, hS.F ht9⟩) hS.2.2 dJx4a65c_grow_d5877_10

set_option maxHeartbeats 4000000 in
set_option maxRecDepth 100000 in
theorem k28_add (l : Launch) (hl9 : l.stackTraces = false) (dC : Nat → ClassId) (dI : Nat → Nat → Nat) (z : XZ) (h0 h1 : Nat) (o0 : Nat) (sz : Nat) : Met l yJx4a65c_add_72be8 (.code yJx4a65c_add_72be8 cJx4a65c_add_72be8 4 none :: wsL_law) ({ frames := 3, cells := 1, slots := 10, locals := 65 }) (va_Pc [.ref h0, .ref h1, .ref z.1, .int 0] (PC (dC, dI) [(h0, .inr (0, [.int 2, .ref z.1, .int 0])), (h1, .inr (3, [.int 0, .ref (z.2.1 0), .ref o0, .null, .int 0, .int 0, .int 120, .int 120, .int 0, .int 0, .int 0, .int 120, .int 120, .int 0, .int 0, .int 0, .ref h1, .int 1, .int 0]))] [] sz z)) (va_Qv (fun (_ : Unit) => True) (fun (_ : Unit) (t : State) => ∃ (n0 : Nat), ∃ (m0 : ClassId), PG (dC, dI) [(h0, .inr (0, [.int 2, .ref n0, .int 1])), (h1, .inr (3, [.int 0, .ref (z.2.1 0), .ref o0, .null, .int 0, .int 0, .int 120, .int 120, .int 0, .int 0, .int 0, .int 120, .int 120, .int 0, .int 0, .int 0, .ref h1, .int 1, .int 0])), (n0, .inl (m0, 10, .inr (.inr (.inr (.inr (va_up (fun _ => none) 0 (some h1)))))))] [(m0, .object "java/lang/Object")] (va_A [(h0, .inr (0, [.int 2, .ref z.1, .int 0])), (h1, .inr (3, [.int 0, .ref (z.2.1 0), .ref o0, .null, .int 0, .int 0, .int 120, .int 120, .int 0, .int 0, .int 0, .int 120, .int 120, .int 0, .int 0, .int 0, .ref h1, .int 1, .int 0]))] sz) sz 1 t) (va_A [(h0, .inr (0, [.int 2, .ref z.1, .int 0])), (h1, .inr (3, [.int 0, .ref (z.2.1 0), .ref o0, .null, .int 0, .int 0, .int 120, .int 120, .int 0, .int 0, .int 0, .int 120, .int 120, .int 0, .int 0, .int 0, .ref h1, .int 1, .int 0]))] sz)) 1 10 (va_A [(h0, .inr (0, [.int 2, .ref z.1, .int 0])), (h1, .inr (3, [.int 0, .ref (z.2.1 0), .ref o0, .null, .int 0, .int 0, .int 120, .int 120, .int 0, .int 0, .int 0, .int 120, .int 120, .int 0, .int 0, .int 0, .ref h1, .int 1, .int 0]))] sz) := by
  refine Met.ofW (cc := cJx4a65c_add_72be8) (maxL := 4) (ret := none) (by decide) rfl ?_
  intro p e s m args below meth c s₁ B hml hv
  obtain ⟨rfl, hsz, hP, hK, hD0, hX, hT⟩ := hv
  have hx := B.exec
  have hb := B.bytes
  have hr := B.returns
  have hts0 := atoms_spec (ws := .code yJx4a65c_add_72be8 cJx4a65c_add_72be8 4 none :: wsL_law) B.pre
  have hts := xTail hts0
  have hown : s.vm.findClass RJx4a65c = some m.cls := findClass_of_methodNamed B.named
  have hlocks := B.notSynchronized
  subst hsz
  have hD := hD0.self (sz := s.heap.size)
  generalize hAe : va_A [(h0, .inr (0, [.int 2, .ref z.1, .int 0])), (h1, .inr (3, [.int 0, .ref (z.2.1 0), .ref o0, .null, .int 0, .int 0, .int 120, .int 120, .int 0, .int 0, .int 0, .int 120, .int 120, .int 0, .int 0, .int 0, .ref h1, .int 1, .int 0]))] s.heap.size = A at hD hX ⊢
  have hA : ∀ q : Nat, s.heap.size ≤ q → A q := fun q h => by rw [← hAe]; exact Or.inr h
  have hS : va_S A s.heap s.heap [] := va_S.rf
  have hG : s.heap.size + 0 ≤ s.heap.size := Nat.le_refl _
  have hl := lv_entry ([.ref h0, .ref h1, .ref z.1, .int 0]) (n := 4) (Nat.le_of_ble_eq_true rfl)
  rw [lg_entry_eq]
  generalize (lg_sl ([.ref h0, .ref h1, .ref z.1, .int 0]) ++ List.replicate (4 - (lg_sl ([.ref h0, .ref h1, .ref z.1, .int 0])).length) Slot.unset).toArray = ls at hl ⊢
  have hl : lv_has ls 4 [(0, .ref h0), (1, .ref h1), (2, .ref z.1), (3, .int 0)] := hl
  refine lv_iload_n hx hb dJx4a65c_add_72be8_0 rfl (lv_at hl 3 rfl) ?_
  refine lv_aload_n hx hb dJx4a65c_add_72be8_1 rfl (lv_at hl 2 rfl) ?_
  refine va_tlen hx hb hX.1.2 hS (v := 0) rfl dJx4a65c_add_72be8_2 ?_
  refine lv_icmp_ne (tgt := 11) hx hb dJx4a65c_add_72be8_3 (by decide) (fun cz => absurd (by decide) cz) (fun _ => ?_)
  refine lv_aload_n hx hb dJx4a65c_add_72be8_6 rfl (lv_at hl 0 rfl) ?_
  have hF1 := va_free (wc := [(h0, .inr (0, [.int 2, .ref z.1, .int 0]))]) hD hS hA [0] rfl
  refine va_callr (va_runV (As := []) (rest := []) ⟨hx, hb, hml, hown, hts⟩ (k27_grow l hl9 dC dI z h0 s.heap.size) (cwV 0 hts (gV q_119 q_120 q_121 q_12 q_118) rfl rfl rfl (by decide +kernel) ⟨Nat.le_of_ble_eq_true rfl, Nat.le_of_ble_eq_true rfl⟩) ⟨pc_blind, va_recv hK hP (ci := 0) (q0 := 0) rfl rfl, fun U hU hW => ⟨rfl, pc_mk hP hD hK hS hX hT [0] [] rfl rfl rfl rfl hF1 hU hW⟩⟩ rfl rfl hl.1 rfl (lv_room (Nat.le_of_ble_eq_true rfl)) dJx4a65c_add_72be8_7 ⟨(Nat.le_of_ble_eq_true rfl), (Nat.le_of_ble_eq_true rfl)⟩) hS (fun q9 _ h9 => hF1 q9 h9) hF1 (fun u3 r4 t3 H3 L3 ht3 hvm3 hw3 hB3 hz3 hk3 hS => ?_)
  obtain ⟨a5, k6, hr3, hB3⟩ := hB3
  obtain ⟨hP, hD, hK⟩ := pq_join (wr := [(h1, .inr (3, [.int 0, .ref (z.2.1 0), .ref o0, .null, .int 0, .int 0, .int 120, .int 120, .int 0, .int 0, .int 0, .int 120, .int 120, .int 0, .int 0, .int 0, .ref h1, .int 1, .int 0]))]) (tr := []) (wz := [(h1, .inr (3, [.int 0, .ref (z.2.1 0), .ref o0, .null, .int 0, .int 0, .int 120, .int 120, .int 0, .int 0, .int 0, .int 120, .int 120, .int 0, .int 0, .int 0, .ref h1, .int 1, .int 0])), (h0, .inr (0, [.int 2, .ref a5, .int 0])), (a5, .inl (k6, 10, .inr (.inr (.inr (.inr (fun _ => none))))))]) (tz := [(k6, .object "java/lang/Object")]) hP hD hK [0] [1] [] rfl rfl (by decide) (by decide) rfl hk3 hF1 hB3.1 ht3 hvm3 rfl rfl
  have hG : s.heap.size + 1 ≤ H3.size := va_gr (g := 0) (g1 := 1) hG (by rw [← ht3]; exact hB3.2)
  refine W.eq (g2 := F0 m 10 ls [.ref a5]) (by rw [hr3]) ?_
  refine W.widen (k := 1) (n := 10) (by decide) (by decide) ?_
  refine lv_astore_n (lv' := [(2, .ref a5), (0, .ref h0), (1, .ref h1), (3, .int 0)]) hx hb dJx4a65c_add_72be8_10 rfl hl (by decide) rfl (fun ls hl => ?_)
  refine lv_aload_n hx hb dJx4a65c_add_72be8_11 rfl (lv_at hl 0 rfl) ?_
  refine lv_iload_n hx hb dJx4a65c_add_72be8_12 rfl (lv_at hl 3 rfl) ?_
  refine lv_aload_n hx hb dJx4a65c_add_72be8_13 rfl (lv_at hl 2 rfl) ?_
  refine vb_astq (E := "java/lang/Object") (C := RX2) hx hb hK hP hD (va_Sre hS) 2 0 rfl rfl (va_recv hK hP (ci := 3) (q0 := 0) rfl rfl) (vb_asgC (hT.2.1.1 (RX2, "java/lang/Object") (by decide))) (i := 0) (by unfold vp_in; decide) dJx4a65c_add_72be8_14 (fun H7 _ hP hD hS' => ?_)
  have hG : s.heap.size + 1 ≤ H7.size := Nat.le_trans hG hS'.1
  have hS := va_Str hS hS'
  have hP : va_P (dC, dI) xCl [(h1, .inr (3, [.int 0, .ref (z.2.1 0), .ref o0, .null, .int 0, .int 0, .int 120, .int 120, .int 0, .int 0, .int 0, .int 120, .int 120, .int 0, .int 0, .int 0, .ref h1, .int 1, .int 0])), (h0, .inr (0, [.int 2, .ref a5, .int 0])), (a5, .inl (k6, 10, .inr (.inr (.inr (.inr (va_up (fun _ => none) 0 (some h1)))))))] H7 := hP
  have hD : va_D A [(h1, .inr (3, [.int 0, .ref (z.2.1 0), .ref o0, .null, .int 0, .int 0, .int 120, .int 120, .int 0, .int 0, .int 0, .int 120, .int 120, .int 0, .int 0, .int 0, .ref h1, .int 1, .int 0])), (h0, .inr (0, [.int 2, .ref a5, .int 0])), (a5, .inl (k6, 10, .inr (.inr (.inr (.inr (va_up (fun _ => none) 0 (some h1)))))))] := hD
  refine lv_aload_n hx hb dJx4a65c_add_72be8_15 rfl (lv_at hl 1 rfl) ?_
  refine lv_iload_n hx hb dJx4a65c_add_72be8_16 rfl (lv_at hl 3 rfl) ?_
  refine lv_iconst (v := 1) hx hb dJx4a65c_add_72be8_17 (by decide) ?_
  refine lv_iadd hx hb dJx4a65c_add_72be8_18 ?_
  refine lv_topi (fun y8 ey8 => ?_)
  obtain rfl : y8 = 1 := ey8.trans (by decide)
  refine va_put (D := (dC, dI)) (ci := 0) (v := .int 1) (ty := .int) (C := RJx4a65c) (T := TJx4a65c) (N := 3) hx hb hts in_Jx4a65c tyJx4a65c tyJx4a65c_ok nmJx4a65c hown hK hP hD (va_Sre hS) 1 rfl rfl 2 (by decide) (hts _ q_74) (fun _ h9 => h9) rfl (by decide +kernel) rfl rfl (Nat.le_of_ble_eq_true rfl) dJx4a65c_add_72be8_19 (fun H9 _ hP hD hS' => ?_)
  have hG : s.heap.size + 1 ≤ H9.size := Nat.le_trans hG hS'.1
  have hS := va_Str hS hS'
  have hP : va_P (dC, dI) xCl [(h1, .inr (3, [.int 0, .ref (z.2.1 0), .ref o0, .null, .int 0, .int 0, .int 120, .int 120, .int 0, .int 0, .int 0, .int 120, .int 120, .int 0, .int 0, .int 0, .ref h1, .int 1, .int 0])), (h0, .inr (0, [.int 2, .ref a5, .int 1])), (a5, .inl (k6, 10, .inr (.inr (.inr (.inr (va_up (fun _ => none) 0 (some h1)))))))] H9 := hP
  have hD : va_D A [(h1, .inr (3, [.int 0, .ref (z.2.1 0), .ref o0, .null, .int 0, .int 0, .int 120, .int 120, .int 0, .int 0, .int 0, .int 120, .int 120, .int 0, .int 0, .int 0, .ref h1, .int 1, .int 0])), (h0, .inr (0, [.int 2, .ref a5, .int 1])), (a5, .inl (k6, 10, .inr (.inr (.inr (.inr (va_up (fun _ => none) 0 (some h1)))))))] := hD
  exact W.vret hx hb hr (fun t9 ht9 hW9 => ⟨⟨(), rfl, trivial, ⟨a5, k6, ⟨pq_mk (wc := [(h0, .inr (0, [.int 2, .ref a5, .int 1])), (h1, .inr (3, [.int 0, .ref (z.2.1 0), .ref o0, .null, .int 0, .int 0, .int 120, .int 120, .int 0, .int 0, .int 0, .int 120, .int 120, .int 0, .int 0, .int 0, .ref h1, .int 1, .int 0])), (a5, .inl (k6, 10, .inr (.inr (.inr (.inr (va_up (fun _ => none) 0 (some h1)))))))]) (tc := [(k6, .object "java/lang/Object")]) hP hD hK [1, 0, 2] [0] rfl rfl rfl rfl ht9 hW9, by rw [ht9]; exact Nat.le_trans (Nat.add_le_add_left (Nat.le_of_ble_eq_true rfl) _) hG⟩⟩⟩, hS.F ht9⟩) hS.2.2 dJx4a65c_add_72be8_22

set_option maxHeartbeats 4000000 in
set_option maxRecDepth 100000 in
theorem k29_add (l : Launch) (hl9 : l.stackTraces = false) (dC : Nat → ClassId) (dI : Nat → Nat → Nat) (z : XZ) (h0 h1 : Nat) (o0 : Nat) (sz : Nat) : Met l yJx4a65c_add_9ea2d (.code yJx4a65c_add_9ea2d cJx4a65c_add_9ea2d 2 (some .boolean) :: wsL_law) ({ frames := 4, cells := 1, slots := 10, locals := 88 }) (va_Pc [.ref h0, .ref h1] (PC (dC, dI) [(h0, .inr (0, [.int 1, .ref z.1, .int 0])), (h1, .inr (3, [.int 0, .ref (z.2.1 0), .ref o0, .null, .int 0, .int 0, .int 120, .int 120, .int 0, .int 0, .int 0, .int 120, .int 120, .int 0, .int 0, .int 0, .ref h1, .int 1, .int 0]))] [] sz z)) (va_Qi (fun (r : Int32) (_ : Unit) => r = 1) (fun (_ : Unit) (t : State) => ∃ (n0 : Nat), ∃ (m0 : ClassId), PG (dC, dI) [(h0, .inr (0, [.int 2, .ref n0, .int 1])), (h1, .inr (3, [.int 0, .ref (z.2.1 0), .ref o0, .null, .int 0, .int 0, .int 120, .int 120, .int 0, .int 0, .int 0, .int 120, .int 120, .int 0, .int 0, .int 0, .ref h1, .int 1, .int 0])), (n0, .inl (m0, 10, .inr (.inr (.inr (.inr (va_up (fun _ => none) 0 (some h1)))))))] [(m0, .object "java/lang/Object")] (va_A [(h0, .inr (0, [.int 1, .ref z.1, .int 0])), (h1, .inr (3, [.int 0, .ref (z.2.1 0), .ref o0, .null, .int 0, .int 0, .int 120, .int 120, .int 0, .int 0, .int 0, .int 120, .int 120, .int 0, .int 0, .int 0, .ref h1, .int 1, .int 0]))] sz) sz 1 t) (va_A [(h0, .inr (0, [.int 1, .ref z.1, .int 0])), (h1, .inr (3, [.int 0, .ref (z.2.1 0), .ref o0, .null, .int 0, .int 0, .int 120, .int 120, .int 0, .int 0, .int 0, .int 120, .int 120, .int 0, .int 0, .int 0, .ref h1, .int 1, .int 0]))] sz)) 1 10 (va_A [(h0, .inr (0, [.int 1, .ref z.1, .int 0])), (h1, .inr (3, [.int 0, .ref (z.2.1 0), .ref o0, .null, .int 0, .int 0, .int 120, .int 120, .int 0, .int 0, .int 0, .int 120, .int 120, .int 0, .int 0, .int 0, .ref h1, .int 1, .int 0]))] sz) := by
  refine Met.ofW (cc := cJx4a65c_add_9ea2d) (maxL := 2) (ret := (some .boolean)) (by decide) rfl ?_
  intro p e s m args below meth c s₁ B hml hv
  obtain ⟨rfl, hsz, hP, hK, hD0, hX, hT⟩ := hv
  have hx := B.exec
  have hb := B.bytes
  have hr := B.returns
  have hts0 := atoms_spec (ws := .code yJx4a65c_add_9ea2d cJx4a65c_add_9ea2d 2 (some .boolean) :: wsL_law) B.pre
  have hts := xTail hts0
  have hown : s.vm.findClass RJx4a65c = some m.cls := findClass_of_methodNamed B.named
  have hlocks := B.notSynchronized
  subst hsz
  have hD := hD0.self (sz := s.heap.size)
  generalize hAe : va_A [(h0, .inr (0, [.int 1, .ref z.1, .int 0])), (h1, .inr (3, [.int 0, .ref (z.2.1 0), .ref o0, .null, .int 0, .int 0, .int 120, .int 120, .int 0, .int 0, .int 0, .int 120, .int 120, .int 0, .int 0, .int 0, .ref h1, .int 1, .int 0]))] s.heap.size = A at hD hX ⊢
  have hA : ∀ q : Nat, s.heap.size ≤ q → A q := fun q h => by rw [← hAe]; exact Or.inr h
  have hS : va_S A s.heap s.heap [] := va_S.rf
  have hG : s.heap.size + 0 ≤ s.heap.size := Nat.le_refl _
  have hl := lv_entry ([.ref h0, .ref h1]) (n := 2) (Nat.le_of_ble_eq_true rfl)
  rw [lg_entry_eq]
  generalize (lg_sl ([.ref h0, .ref h1]) ++ List.replicate (2 - (lg_sl ([.ref h0, .ref h1])).length) Slot.unset).toArray = ls at hl ⊢
  have hl : lv_has ls 2 [(0, .ref h0), (1, .ref h1)] := hl
  refine lv_aload_n hx hb dJx4a65c_add_9ea2d_0 rfl (lv_at hl 0 rfl) ?_
  refine lv_dup hx hb dJx4a65c_add_9ea2d_1 rfl ?_
  refine va_get (D := (dC, dI)) (ci := 0) (v := .int 1) (C := RJx4a65c) (T := TJx4a65c) (N := 3) hx hb hts in_Jx4a65c hown hK hP 0 rfl rfl 0 (by decide) (hts _ q_108) (u_same (hts _ q_107)) rfl dJx4a65c_add_9ea2d_2 ?_
  refine lv_iconst (v := 1) hx hb dJx4a65c_add_9ea2d_5 (by decide) ?_
  refine lv_iadd hx hb dJx4a65c_add_9ea2d_6 ?_
  refine lv_topi (fun y1 ey1 => ?_)
  obtain rfl : y1 = 2 := ey1.trans (by decide)
  refine va_put (D := (dC, dI)) (ci := 0) (v := .int 2) (ty := .int) (C := RJx4a65c) (T := TJx4a65c) (N := 3) hx hb hts in_Jx4a65c tyJx4a65c tyJx4a65c_ok nmJx4a65c hown hK hP hD (va_Sre hS) 0 rfl rfl 0 (by decide) (hts _ q_108) (u_same (hts _ q_107)) rfl (by decide +kernel) rfl rfl (Nat.le_of_ble_eq_true rfl) dJx4a65c_add_9ea2d_7 (fun H2 _ hP hD hS' => ?_)
  have hG : s.heap.size + 0 ≤ H2.size := Nat.le_trans hG hS'.1
  have hS := va_Str hS hS'
  have hP : va_P (dC, dI) xCl [(h0, .inr (0, [.int 2, .ref z.1, .int 0])), (h1, .inr (3, [.int 0, .ref (z.2.1 0), .ref o0, .null, .int 0, .int 0, .int 120, .int 120, .int 0, .int 0, .int 0, .int 120, .int 120, .int 0, .int 0, .int 0, .ref h1, .int 1, .int 0]))] H2 := hP
  have hD : va_D A [(h0, .inr (0, [.int 2, .ref z.1, .int 0])), (h1, .inr (3, [.int 0, .ref (z.2.1 0), .ref o0, .null, .int 0, .int 0, .int 120, .int 120, .int 0, .int 0, .int 0, .int 120, .int 120, .int 0, .int 0, .int 0, .ref h1, .int 1, .int 0]))] := hD
  refine lv_aload_n hx hb dJx4a65c_add_9ea2d_10 rfl (lv_at hl 0 rfl) ?_
  refine lv_aload_n hx hb dJx4a65c_add_9ea2d_11 rfl (lv_at hl 1 rfl) ?_
  refine lv_aload_n hx hb dJx4a65c_add_9ea2d_12 rfl (lv_at hl 0 rfl) ?_
  refine va_get (D := (dC, dI)) (ci := 0) (v := .ref z.1) (C := RJx4a65c) (T := TJx4a65c) (N := 3) hx hb hts in_Jx4a65c hown hK hP 0 rfl rfl 1 (by decide) (hts _ q_24) (fun _ h9 => h9) rfl dJx4a65c_add_9ea2d_13 ?_
  refine lv_aload_n hx hb dJx4a65c_add_9ea2d_16 rfl (lv_at hl 0 rfl) ?_
  refine va_get (D := (dC, dI)) (ci := 0) (v := .int 0) (C := RJx4a65c) (T := TJx4a65c) (N := 3) hx hb hts in_Jx4a65c hown hK hP 0 rfl rfl 2 (by decide) (hts _ q_74) (fun _ h9 => h9) rfl dJx4a65c_add_9ea2d_17 ?_
  have hF3 := va_free (wc := [(h0, .inr (0, [.int 2, .ref z.1, .int 0])), (h1, .inr (3, [.int 0, .ref (z.2.1 0), .ref o0, .null, .int 0, .int 0, .int 120, .int 120, .int 0, .int 0, .int 0, .int 120, .int 120, .int 0, .int 0, .int 0, .ref h1, .int 1, .int 0]))]) hD hS hA [0, 1] rfl
  refine va_callv (va_runV (As := [.ref h1, .ref z.1, .int 0]) (rest := []) ⟨hx, hb, hml, hown, hts⟩ (k28_add l hl9 dC dI z h0 h1 o0 H2.size) (cwV 3 hts (gV q_123 q_124 q_125 q_12 q_122) rfl rfl rfl (by decide +kernel) ⟨Nat.le_of_ble_eq_true rfl, Nat.le_of_ble_eq_true rfl⟩) ⟨pc_blind, va_recv hK hP (ci := 0) (q0 := 0) rfl rfl, fun U hU hW => ⟨rfl, pc_mk hP hD hK hS hX hT [0, 1] [] rfl rfl rfl rfl hF3 hU hW⟩⟩ rfl rfl hl.1 rfl (lv_room (Nat.le_of_ble_eq_true rfl)) dJx4a65c_add_9ea2d_20 ⟨(Nat.le_of_ble_eq_true rfl), (Nat.le_of_ble_eq_true rfl)⟩) hS (fun q9 _ h9 => hF3 q9 h9) hF3 (fun u5 t5 H5 L5 ht5 hvm5 hw5 hB5 hz5 hk5 hS => ?_)
  obtain ⟨a7, k8, hB5⟩ := hB5
  obtain ⟨hP, hD, hK⟩ := pq_join (wr := []) (tr := []) (wz := [(h0, .inr (0, [.int 2, .ref a7, .int 1])), (h1, .inr (3, [.int 0, .ref (z.2.1 0), .ref o0, .null, .int 0, .int 0, .int 120, .int 120, .int 0, .int 0, .int 0, .int 120, .int 120, .int 0, .int 0, .int 0, .ref h1, .int 1, .int 0])), (a7, .inl (k8, 10, .inr (.inr (.inr (.inr (va_up (fun _ => none) 0 (some h1)))))))]) (tz := [(k8, .object "java/lang/Object")]) hP hD hK [0, 1] [] [] rfl rfl (by decide) (by decide) rfl hk5 hF3 hB5.1 ht5 hvm5 rfl rfl
  have hG : s.heap.size + 1 ≤ H5.size := va_gr (g := 0) (g1 := 1) hG (by rw [← ht5]; exact hB5.2)
  refine W.widen (k := 1) (n := 10) (by decide) (by decide) ?_
  refine lv_iconst (v := 1) hx hb dJx4a65c_add_9ea2d_23 (by decide) ?_
  exact W.zret (v := 1) (ty := .boolean) hx hb hr rfl (fun t9 ht9 hW9 => ⟨⟨1, (), rfl, rfl, ⟨a7, k8, ⟨pq_mk (wc := [(h0, .inr (0, [.int 2, .ref a7, .int 1])), (h1, .inr (3, [.int 0, .ref (z.2.1 0), .ref o0, .null, .int 0, .int 0, .int 120, .int 120, .int 0, .int 0, .int 0, .int 120, .int 120, .int 0, .int 0, .int 0, .ref h1, .int 1, .int 0])), (a7, .inl (k8, 10, .inr (.inr (.inr (.inr (va_up (fun _ => none) 0 (some h1)))))))]) (tc := [(k8, .object "java/lang/Object")]) hP hD hK [0, 1, 2] [0] rfl rfl rfl rfl ht9 hW9, by rw [ht9]; exact Nat.le_trans (Nat.add_le_add_left (Nat.le_of_ble_eq_true rfl) _) hG⟩⟩⟩, hS.F ht9⟩) hS.2.2 dJx4a65c_add_9ea2d_24

set_option maxHeartbeats 4000000 in
set_option maxRecDepth 100000 in
theorem k30_placeThoseReady (l : Launch) (hl9 : l.stackTraces = false) (dC : Nat → ClassId) (dI : Nat → Nat → Nat) (z : XZ) (h0 h1 h2 h3 h4 h5 : Nat) (o0 o1 : Nat) (sz : Nat) (kc0 : ClassId) : Met l yX0_placeThoseReady (.code yX0_placeThoseReady cX0_placeThoseReady 3 none :: wsL_law) ({ frames := 5, cells := 1, slots := 10, locals := 109 }) (va_Pc [.ref h0] (PC (dC, dI) [(h0, .inr (2, [.ref h1, .ref o0, .ref o1, .ref h2])), (h1, .inr (0, [.int 1, .ref h3, .int 1])), (h2, .inr (0, [.int 1, .ref z.1, .int 0])), (h3, .inl (kc0, 10, .inr (.inr (.inr (.inr (va_up (fun _ => none) 0 (some h4))))))), (h4, .inr (3, [.int 0, .ref (z.2.1 0), .ref h5, .null, .int 0, .int 0, .int 120, .int 120, .int 0, .int 0, .int 0, .int 120, .int 120, .int 0, .int 0, .int 0, .ref h4, .int 0, .int 0])), (h5, .inr (0, [.int 0, .ref z.1, .int 0]))] [(kc0, .object "java/lang/Object")] sz z)) (va_Qv (fun (_ : Unit) => True) (fun (_ : Unit) (t : State) => ∃ (n0 : Nat), ∃ (m0 : ClassId), PG (dC, dI) [(h0, .inr (2, [.ref h1, .ref o0, .ref o1, .ref h2])), (h1, .inr (0, [.int 1, .ref h3, .int 1])), (h2, .inr (0, [.int 2, .ref n0, .int 1])), (h3, .inl (kc0, 10, .inr (.inr (.inr (.inr (va_up (fun _ => none) 0 (some h4))))))), (h4, .inr (3, [.int 0, .ref (z.2.1 0), .ref h5, .null, .int 0, .int 0, .int 120, .int 120, .int 0, .int 0, .int 0, .int 120, .int 120, .int 0, .int 0, .int 0, .ref h4, .int 1, .int 0])), (h5, .inr (0, [.int 0, .ref z.1, .int 0])), (n0, .inl (m0, 10, .inr (.inr (.inr (.inr (va_up (fun _ => none) 0 (some h4)))))))] [(kc0, .object "java/lang/Object"), (m0, .object "java/lang/Object")] (va_A [(h0, .inr (2, [.ref h1, .ref o0, .ref o1, .ref h2])), (h1, .inr (0, [.int 1, .ref h3, .int 1])), (h2, .inr (0, [.int 1, .ref z.1, .int 0])), (h3, .inl (kc0, 10, .inr (.inr (.inr (.inr (va_up (fun _ => none) 0 (some h4))))))), (h4, .inr (3, [.int 0, .ref (z.2.1 0), .ref h5, .null, .int 0, .int 0, .int 120, .int 120, .int 0, .int 0, .int 0, .int 120, .int 120, .int 0, .int 0, .int 0, .ref h4, .int 0, .int 0])), (h5, .inr (0, [.int 0, .ref z.1, .int 0]))] sz) sz 1 t) (va_A [(h0, .inr (2, [.ref h1, .ref o0, .ref o1, .ref h2])), (h1, .inr (0, [.int 1, .ref h3, .int 1])), (h2, .inr (0, [.int 1, .ref z.1, .int 0])), (h3, .inl (kc0, 10, .inr (.inr (.inr (.inr (va_up (fun _ => none) 0 (some h4))))))), (h4, .inr (3, [.int 0, .ref (z.2.1 0), .ref h5, .null, .int 0, .int 0, .int 120, .int 120, .int 0, .int 0, .int 0, .int 120, .int 120, .int 0, .int 0, .int 0, .ref h4, .int 0, .int 0])), (h5, .inr (0, [.int 0, .ref z.1, .int 0]))] sz)) 1 10 (va_A [(h0, .inr (2, [.ref h1, .ref o0, .ref o1, .ref h2])), (h1, .inr (0, [.int 1, .ref h3, .int 1])), (h2, .inr (0, [.int 1, .ref z.1, .int 0])), (h3, .inl (kc0, 10, .inr (.inr (.inr (.inr (va_up (fun _ => none) 0 (some h4))))))), (h4, .inr (3, [.int 0, .ref (z.2.1 0), .ref h5, .null, .int 0, .int 0, .int 120, .int 120, .int 0, .int 0, .int 0, .int 120, .int 120, .int 0, .int 0, .int 0, .ref h4, .int 0, .int 0])), (h5, .inr (0, [.int 0, .ref z.1, .int 0]))] sz) := by
  refine Met.ofW (cc := cX0_placeThoseReady) (maxL := 3) (ret := none) (by decide) rfl ?_
  intro p e s m args below meth c s₁ B hml hv
  obtain ⟨rfl, hsz, hP, hK, hD0, hX, hT⟩ := hv
  have hx := B.exec
  have hb := B.bytes
  have hr := B.returns
  have hts0 := atoms_spec (ws := .code yX0_placeThoseReady cX0_placeThoseReady 3 none :: wsL_law) B.pre
  have hts := xTail hts0
  have hown : s.vm.findClass RX0 = some m.cls := findClass_of_methodNamed B.named
  have hlocks := B.notSynchronized
  subst hsz
  have hD := hD0.self (sz := s.heap.size)
  generalize hAe : va_A [(h0, .inr (2, [.ref h1, .ref o0, .ref o1, .ref h2])), (h1, .inr (0, [.int 1, .ref h3, .int 1])), (h2, .inr (0, [.int 1, .ref z.1, .int 0])), (h3, .inl (kc0, 10, .inr (.inr (.inr (.inr (va_up (fun _ => none) 0 (some h4))))))), (h4, .inr (3, [.int 0, .ref (z.2.1 0), .ref h5, .null, .int 0, .int 0, .int 120, .int 120, .int 0, .int 0, .int 0, .int 120, .int 120, .int 0, .int 0, .int 0, .ref h4, .int 0, .int 0])), (h5, .inr (0, [.int 0, .ref z.1, .int 0]))] s.heap.size = A at hD hX ⊢
  have hA : ∀ q : Nat, s.heap.size ≤ q → A q := fun q h => by rw [← hAe]; exact Or.inr h
  have hS : va_S A s.heap s.heap [] := va_S.rf
  have hG : s.heap.size + 0 ≤ s.heap.size := Nat.le_refl _
  have hl := lv_entry ([.ref h0]) (n := 3) (Nat.le_of_ble_eq_true rfl)
  rw [lg_entry_eq]
  generalize (lg_sl ([.ref h0]) ++ List.replicate (3 - (lg_sl ([.ref h0])).length) Slot.unset).toArray = ls at hl ⊢
  have hl : lv_has ls 3 [(0, .ref h0)] := hl
  refine lv_iconst (v := 0) hx hb dX0_placeThoseReady_0 (by decide) ?_
  refine lv_istore_n (lv' := [(1, .int 0), (0, .ref h0)]) hx hb dX0_placeThoseReady_1 rfl hl (by decide) rfl (fun ls hl => ?_)
  refine lv_iload_n hx hb dX0_placeThoseReady_2 rfl (lv_at hl 0 rfl) ?_
  refine lv_aload_n hx hb dX0_placeThoseReady_3 rfl (lv_at hl 1 rfl) ?_
  refine va_get (D := (dC, dI)) (ci := 2) (v := .ref h1) (C := RX0) (T := TX0) (N := 4) hx hb hts in_X0 hown hK hP 0 rfl rfl 0 (by decide) (hts _ q_28) (fun _ h9 => h9) rfl dX0_placeThoseReady_4 ?_
  have hF1 := va_free (wc := [(h1, .inr (0, [.int 1, .ref h3, .int 1]))]) hD hS hA [1] rfl
  refine va_calli (va_runV (As := []) (rest := [.int 0]) ⟨hx, hb, hml, hown, hts⟩ (k20_size l hl9 dC dI z h1 h3 s.heap.size 1 1) (cwV 0 hts (gV q_92 q_77 q_78 q_12 q_75) rfl rfl rfl (by decide +kernel) ⟨Nat.le_of_ble_eq_true rfl, Nat.le_of_ble_eq_true rfl⟩) ⟨pc_blind, va_recv hK hP (ci := 0) (q0 := 1) rfl rfl, fun U hU hW => ⟨rfl, pc_mk hP hD hK hS hX hT [1] [] rfl rfl rfl rfl hF1 hU hW⟩⟩ rfl rfl hl.1 rfl (lv_room (Nat.le_of_ble_eq_true rfl)) dX0_placeThoseReady_7 ⟨(Nat.le_of_ble_eq_true rfl), (Nat.le_of_ble_eq_true rfl)⟩) hS (fun q9 _ h9 => hF1 q9 h9) hF1 (fun r4 u3 t3 H3 L3 ht3 hvm3 hw3 hB3 hz3 hk3 hS => ?_)
  obtain ⟨hP, hD, hK⟩ := pq_join (wr := [(h0, .inr (2, [.ref h1, .ref o0, .ref o1, .ref h2])), (h2, .inr (0, [.int 1, .ref z.1, .int 0])), (h3, .inl (kc0, 10, .inr (.inr (.inr (.inr (va_up (fun _ => none) 0 (some h4))))))), (h4, .inr (3, [.int 0, .ref (z.2.1 0), .ref h5, .null, .int 0, .int 0, .int 120, .int 120, .int 0, .int 0, .int 0, .int 120, .int 120, .int 0, .int 0, .int 0, .ref h4, .int 0, .int 0])), (h5, .inr (0, [.int 0, .ref z.1, .int 0]))]) (tr := [(kc0, .object "java/lang/Object")]) (wz := [(h0, .inr (2, [.ref h1, .ref o0, .ref o1, .ref h2])), (h2, .inr (0, [.int 1, .ref z.1, .int 0])), (h3, .inl (kc0, 10, .inr (.inr (.inr (.inr (va_up (fun _ => none) 0 (some h4))))))), (h4, .inr (3, [.int 0, .ref (z.2.1 0), .ref h5, .null, .int 0, .int 0, .int 120, .int 120, .int 0, .int 0, .int 0, .int 120, .int 120, .int 0, .int 0, .int 0, .ref h4, .int 0, .int 0])), (h5, .inr (0, [.int 0, .ref z.1, .int 0])), (h1, .inr (0, [.int 1, .ref h3, .int 1]))]) (tz := [(kc0, .object "java/lang/Object")]) hP hD hK [1] [0, 2, 3, 4, 5] [0] rfl rfl (by decide) (by decide) rfl hk3 hF1 hB3.1 ht3 hvm3 rfl rfl
  have hG : s.heap.size + 0 ≤ H3.size := Nat.le_trans hG hz3
  refine W.eq (g2 := F0 m 10 ls [.int 1, .int 0]) (by rw [hw3]) ?_
  refine lv_icmp_ge (tgt := 59) hx hb dX0_placeThoseReady_10 (by decide) (fun cz => absurd cz (by decide)) (fun _ => ?_)
  refine lv_aload_n hx hb dX0_placeThoseReady_13 rfl (lv_at hl 1 rfl) ?_
  refine va_get (D := (dC, dI)) (ci := 2) (v := .ref h1) (C := RX0) (T := TX0) (N := 4) hx hb hts in_X0 hown hK hP 0 rfl rfl 0 (by decide) (hts _ q_28) (fun _ h9 => h9) rfl dX0_placeThoseReady_14 ?_
  refine lv_iload_n hx hb dX0_placeThoseReady_17 rfl (lv_at hl 0 rfl) ?_
  have hF5 := va_free (wc := [(h1, .inr (0, [.int 1, .ref h3, .int 1])), (h3, .inl (kc0, 10, .inr (.inr (.inr (.inr (va_up (fun _ => none) 0 (some h4)))))))]) hD hS hA [5, 2] rfl
  refine va_callr (va_runV (As := [.int 0]) (rest := []) ⟨hx, hb, hml, hown, hts⟩ (k24_get l hl9 dC dI z h1 h3 h4 H3.size kc0) (cwV 1 hts (gV q_156 q_157 q_158 q_12 q_155) rfl rfl rfl (by decide +kernel) ⟨Nat.le_of_ble_eq_true rfl, Nat.le_of_ble_eq_true rfl⟩) ⟨pc_blind, va_recv hK hP (ci := 0) (q0 := 5) rfl rfl, fun U hU hW => ⟨rfl, pc_mk hP hD hK hS hX hT [5, 2] [0] rfl rfl rfl rfl hF5 hU hW⟩⟩ rfl rfl hl.1 rfl (lv_room (Nat.le_of_ble_eq_true rfl)) dX0_placeThoseReady_18 ⟨(Nat.le_of_ble_eq_true rfl), (Nat.le_of_ble_eq_true rfl)⟩) hS (fun q9 _ h9 => hF5 q9 h9) hF5 (fun u7 r8 t7 H7 L7 ht7 hvm7 hw7 hB7 hz7 hk7 hS => ?_)
  obtain ⟨hr7, hB7⟩ := hB7
  obtain ⟨hP, hD, hK⟩ := pq_join (wr := [(h0, .inr (2, [.ref h1, .ref o0, .ref o1, .ref h2])), (h2, .inr (0, [.int 1, .ref z.1, .int 0])), (h4, .inr (3, [.int 0, .ref (z.2.1 0), .ref h5, .null, .int 0, .int 0, .int 120, .int 120, .int 0, .int 0, .int 0, .int 120, .int 120, .int 0, .int 0, .int 0, .ref h4, .int 0, .int 0])), (h5, .inr (0, [.int 0, .ref z.1, .int 0]))]) (tr := []) (wz := [(h0, .inr (2, [.ref h1, .ref o0, .ref o1, .ref h2])), (h2, .inr (0, [.int 1, .ref z.1, .int 0])), (h4, .inr (3, [.int 0, .ref (z.2.1 0), .ref h5, .null, .int 0, .int 0, .int 120, .int 120, .int 0, .int 0, .int 0, .int 120, .int 120, .int 0, .int 0, .int 0, .ref h4, .int 0, .int 0])), (h5, .inr (0, [.int 0, .ref z.1, .int 0])), (h1, .inr (0, [.int 1, .ref h3, .int 1])), (h3, .inl (kc0, 10, .inr (.inr (.inr (.inr (va_up (fun _ => none) 0 (some h4)))))))]) (tz := [(kc0, .object "java/lang/Object")]) hP hD hK [5, 2] [0, 1, 3, 4] [] rfl rfl (by decide) (by decide) rfl hk7 hF5 hB7.1 ht7 hvm7 rfl rfl
  have hG : s.heap.size + 0 ≤ H7.size := Nat.le_trans hG hz7
  refine W.eq (g2 := F0 m 21 ls [.ref h4]) (by rw [hr7]) ?_
  refine va_castE (nm := RX2) hx hb hown (hts _ q_89) (va_recv hK hP (ci := 3) (q0 := 2) rfl rfl) dX0_placeThoseReady_21 ?_
  refine lv_astore_n (lv' := [(2, .ref h4), (1, .int 0), (0, .ref h0)]) hx hb dX0_placeThoseReady_24 rfl hl (by decide) rfl (fun ls hl => ?_)
  refine lv_aload_n hx hb dX0_placeThoseReady_25 rfl (lv_at hl 0 rfl) ?_
  refine va_get (D := (dC, dI)) (ci := 3) (v := .int 0) (C := RX2) (T := TX2) (N := 19) hx hb hts in_X2 hown hK hP 2 rfl rfl 17 (by decide) (hts _ q_159) (fun _ h9 => h9) rfl dX0_placeThoseReady_26 ?_
  refine lv_if_ne (tgt := 53) hx hb dX0_placeThoseReady_29 (by decide) (fun cz => absurd (by decide) cz) (fun _ => ?_)
  refine lv_aload_n hx hb dX0_placeThoseReady_32 rfl (lv_at hl 0 rfl) ?_
  have hF9 := va_free (wc := [(h4, .inr (3, [.int 0, .ref (z.2.1 0), .ref h5, .null, .int 0, .int 0, .int 120, .int 120, .int 0, .int 0, .int 0, .int 120, .int 120, .int 0, .int 0, .int 0, .ref h4, .int 0, .int 0])), (h5, .inr (0, [.int 0, .ref z.1, .int 0]))]) hD hS hA [2, 3] rfl
  refine va_calli (va_runV (As := []) (rest := []) ⟨hx, hb, hml, hown, hts⟩ (k25_readsOnlyPlaced l hl9 dC dI z h4 h5 H7.size) (cwV 0 hts (gV q_162 q_163 q_164 q_91 q_161) rfl rfl rfl (by decide +kernel) ⟨Nat.le_of_ble_eq_true rfl, Nat.le_of_ble_eq_true rfl⟩) ⟨pc_blind, va_recv hK hP (ci := 3) (q0 := 2) rfl rfl, fun U hU hW => ⟨rfl, pc_mk hP hD hK hS hX hT [2, 3] [] rfl rfl rfl rfl hF9 hU hW⟩⟩ rfl rfl hl.1 rfl (lv_room (Nat.le_of_ble_eq_true rfl)) dX0_placeThoseReady_33 ⟨(Nat.le_of_ble_eq_true rfl), (Nat.le_of_ble_eq_true rfl)⟩) hS (fun q9 _ h9 => hF9 q9 h9) hF9 (fun r12 u11 t11 H11 L11 ht11 hvm11 hw11 hB11 hz11 hk11 hS => ?_)
  obtain ⟨hP, hD, hK⟩ := pq_join (wr := [(h0, .inr (2, [.ref h1, .ref o0, .ref o1, .ref h2])), (h2, .inr (0, [.int 1, .ref z.1, .int 0])), (h1, .inr (0, [.int 1, .ref h3, .int 1])), (h3, .inl (kc0, 10, .inr (.inr (.inr (.inr (va_up (fun _ => none) 0 (some h4)))))))]) (tr := [(kc0, .object "java/lang/Object")]) (wz := [(h0, .inr (2, [.ref h1, .ref o0, .ref o1, .ref h2])), (h2, .inr (0, [.int 1, .ref z.1, .int 0])), (h1, .inr (0, [.int 1, .ref h3, .int 1])), (h3, .inl (kc0, 10, .inr (.inr (.inr (.inr (va_up (fun _ => none) 0 (some h4))))))), (h4, .inr (3, [.int 0, .ref (z.2.1 0), .ref h5, .null, .int 0, .int 0, .int 120, .int 120, .int 0, .int 0, .int 0, .int 120, .int 120, .int 0, .int 0, .int 0, .ref h4, .int 0, .int 0])), (h5, .inr (0, [.int 0, .ref z.1, .int 0]))]) (tz := [(kc0, .object "java/lang/Object")]) hP hD hK [2, 3] [0, 1, 4, 5] [0] rfl rfl (by decide) (by decide) rfl hk11 hF9 hB11.1 ht11 hvm11 rfl rfl
  have hG : s.heap.size + 0 ≤ H11.size := Nat.le_trans hG hz11
  refine W.eq (g2 := F0 m 36 ls [.int 1]) (by rw [hw11]) ?_
  refine lv_if_eq (tgt := 53) hx hb dX0_placeThoseReady_36 (by decide) (fun cz => absurd cz (by decide)) (fun _ => ?_)
  refine lv_aload_n hx hb dX0_placeThoseReady_39 rfl (lv_at hl 0 rfl) ?_
  refine lv_iconst (v := 1) hx hb dX0_placeThoseReady_40 (by decide) ?_
  refine va_put (D := (dC, dI)) (ci := 3) (v := .int 1) (ty := .boolean) (C := RX2) (T := TX2) (N := 19) hx hb hts in_X2 tyX2 tyX2_ok nmX2 hown hK hP hD (va_Sre hS) 4 rfl rfl 17 (by decide) (hts _ q_159) (fun _ h9 => h9) rfl (by decide +kernel) rfl rfl (Nat.le_of_ble_eq_true rfl) dX0_placeThoseReady_41 (fun H13 _ hP hD hS' => ?_)
  have hG : s.heap.size + 0 ≤ H13.size := Nat.le_trans hG hS'.1
  have hS := va_Str hS hS'
  have hP : va_P (dC, dI) xCl [(h0, .inr (2, [.ref h1, .ref o0, .ref o1, .ref h2])), (h2, .inr (0, [.int 1, .ref z.1, .int 0])), (h1, .inr (0, [.int 1, .ref h3, .int 1])), (h3, .inl (kc0, 10, .inr (.inr (.inr (.inr (va_up (fun _ => none) 0 (some h4))))))), (h4, .inr (3, [.int 0, .ref (z.2.1 0), .ref h5, .null, .int 0, .int 0, .int 120, .int 120, .int 0, .int 0, .int 0, .int 120, .int 120, .int 0, .int 0, .int 0, .ref h4, .int 1, .int 0])), (h5, .inr (0, [.int 0, .ref z.1, .int 0]))] H13 := hP
  have hD : va_D A [(h0, .inr (2, [.ref h1, .ref o0, .ref o1, .ref h2])), (h2, .inr (0, [.int 1, .ref z.1, .int 0])), (h1, .inr (0, [.int 1, .ref h3, .int 1])), (h3, .inl (kc0, 10, .inr (.inr (.inr (.inr (va_up (fun _ => none) 0 (some h4))))))), (h4, .inr (3, [.int 0, .ref (z.2.1 0), .ref h5, .null, .int 0, .int 0, .int 120, .int 120, .int 0, .int 0, .int 0, .int 120, .int 120, .int 0, .int 0, .int 0, .ref h4, .int 1, .int 0])), (h5, .inr (0, [.int 0, .ref z.1, .int 0]))] := hD
  refine lv_aload_n hx hb dX0_placeThoseReady_44 rfl (lv_at hl 2 rfl) ?_
  refine va_get (D := (dC, dI)) (ci := 2) (v := .ref h2) (C := RX0) (T := TX0) (N := 4) hx hb hts in_X0 hown hK hP 0 rfl rfl 3 (by decide) (hts _ q_31) (fun _ h9 => h9) rfl dX0_placeThoseReady_45 ?_
  refine lv_aload_n hx hb dX0_placeThoseReady_48 rfl (lv_at hl 0 rfl) ?_
  have hF14 := va_free (wc := [(h2, .inr (0, [.int 1, .ref z.1, .int 0])), (h4, .inr (3, [.int 0, .ref (z.2.1 0), .ref h5, .null, .int 0, .int 0, .int 120, .int 120, .int 0, .int 0, .int 0, .int 120, .int 120, .int 0, .int 0, .int 0, .ref h4, .int 1, .int 0]))]) hD hS hA [1, 4] rfl
  refine va_calli (va_runV (As := [.ref h4]) (rest := []) ⟨hx, hb, hml, hown, hts⟩ (k29_add l hl9 dC dI z h2 h4 h5 H13.size) (cwV 1 hts (gV q_127 q_128 q_129 q_12 q_126) rfl rfl rfl (by decide +kernel) ⟨Nat.le_of_ble_eq_true rfl, Nat.le_of_ble_eq_true rfl⟩) ⟨pc_blind, va_recv hK hP (ci := 0) (q0 := 1) rfl rfl, fun U hU hW => ⟨rfl, pc_mk hP hD hK hS hX hT [1, 4] [] rfl rfl rfl rfl hF14 hU hW⟩⟩ rfl rfl hl.1 rfl (lv_room (Nat.le_of_ble_eq_true rfl)) dX0_placeThoseReady_49 ⟨(Nat.le_of_ble_eq_true rfl), (Nat.le_of_ble_eq_true rfl)⟩) hS (fun q9 _ h9 => hF14 q9 h9) hF14 (fun r17 u16 t16 H16 L16 ht16 hvm16 hw16 hB16 hz16 hk16 hS => ?_)
  obtain ⟨a18, k19, hB16⟩ := hB16
  obtain ⟨hP, hD, hK⟩ := pq_join (wr := [(h0, .inr (2, [.ref h1, .ref o0, .ref o1, .ref h2])), (h1, .inr (0, [.int 1, .ref h3, .int 1])), (h3, .inl (kc0, 10, .inr (.inr (.inr (.inr (va_up (fun _ => none) 0 (some h4))))))), (h5, .inr (0, [.int 0, .ref z.1, .int 0]))]) (tr := [(kc0, .object "java/lang/Object")]) (wz := [(h0, .inr (2, [.ref h1, .ref o0, .ref o1, .ref h2])), (h1, .inr (0, [.int 1, .ref h3, .int 1])), (h3, .inl (kc0, 10, .inr (.inr (.inr (.inr (va_up (fun _ => none) 0 (some h4))))))), (h5, .inr (0, [.int 0, .ref z.1, .int 0])), (h2, .inr (0, [.int 2, .ref a18, .int 1])), (h4, .inr (3, [.int 0, .ref (z.2.1 0), .ref h5, .null, .int 0, .int 0, .int 120, .int 120, .int 0, .int 0, .int 0, .int 120, .int 120, .int 0, .int 0, .int 0, .ref h4, .int 1, .int 0])), (a18, .inl (k19, 10, .inr (.inr (.inr (.inr (va_up (fun _ => none) 0 (some h4)))))))]) (tz := [(kc0, .object "java/lang/Object"), (k19, .object "java/lang/Object")]) hP hD hK [1, 4] [0, 2, 3, 5] [0] rfl rfl (by decide) (by decide) rfl hk16 hF14 hB16.1 ht16 hvm16 rfl rfl
  have hG : s.heap.size + 1 ≤ H16.size := va_gr (g := 0) (g1 := 1) hG (by rw [← ht16]; exact hB16.2)
  refine W.eq (g2 := F0 m 52 ls [.int 1]) (by rw [hw16]) ?_
  refine W.widen (k := 1) (n := 10) (by decide) (by decide) ?_
  refine lv_pop hx hb dX0_placeThoseReady_52 rfl ?_
  refine lv_iinc (v := 1) (lv' := [(1, .int 1), (2, .ref h4), (0, .ref h0)]) hx hb dX0_placeThoseReady_53 hl (k := 1) rfl (by decide) (by decide) rfl (fun ls hl => ?_)
  refine lv_goto (tgt := 2) hx hb dX0_placeThoseReady_56 (by decide) ?_
  refine lv_iload_n hx hb dX0_placeThoseReady_2 rfl (lv_at hl 0 rfl) ?_
  refine lv_aload_n hx hb dX0_placeThoseReady_3 rfl (lv_at hl 2 rfl) ?_
  refine va_get (D := (dC, dI)) (ci := 2) (v := .ref h1) (C := RX0) (T := TX0) (N := 4) hx hb hts in_X0 hown hK hP 0 rfl rfl 0 (by decide) (hts _ q_28) (fun _ h9 => h9) rfl dX0_placeThoseReady_4 ?_
  have hF20 := va_free (wc := [(h1, .inr (0, [.int 1, .ref h3, .int 1]))]) hD hS hA [1] rfl
  refine va_calli (va_runV (As := []) (rest := [.int 1]) ⟨hx, hb, hml, hown, hts⟩ (k20_size l hl9 dC dI z h1 h3 H16.size 1 1) (cwV 0 hts (gV q_92 q_77 q_78 q_12 q_75) rfl rfl rfl (by decide +kernel) ⟨Nat.le_of_ble_eq_true rfl, Nat.le_of_ble_eq_true rfl⟩) ⟨pc_blind, va_recv hK hP (ci := 0) (q0 := 1) rfl rfl, fun U hU hW => ⟨rfl, pc_mk hP hD hK hS hX hT [1] [] rfl rfl rfl rfl hF20 hU hW⟩⟩ rfl rfl hl.1 rfl (lv_room (Nat.le_of_ble_eq_true rfl)) dX0_placeThoseReady_7 ⟨(Nat.le_of_ble_eq_true rfl), (Nat.le_of_ble_eq_true rfl)⟩) hS (fun q9 _ h9 => hF20 q9 h9) hF20 (fun r23 u22 t22 H22 L22 ht22 hvm22 hw22 hB22 hz22 hk22 hS => ?_)
  obtain ⟨hP, hD, hK⟩ := pq_join (wr := [(h0, .inr (2, [.ref h1, .ref o0, .ref o1, .ref h2])), (h3, .inl (kc0, 10, .inr (.inr (.inr (.inr (va_up (fun _ => none) 0 (some h4))))))), (h5, .inr (0, [.int 0, .ref z.1, .int 0])), (h2, .inr (0, [.int 2, .ref a18, .int 1])), (h4, .inr (3, [.int 0, .ref (z.2.1 0), .ref h5, .null, .int 0, .int 0, .int 120, .int 120, .int 0, .int 0, .int 0, .int 120, .int 120, .int 0, .int 0, .int 0, .ref h4, .int 1, .int 0])), (a18, .inl (k19, 10, .inr (.inr (.inr (.inr (va_up (fun _ => none) 0 (some h4)))))))]) (tr := [(kc0, .object "java/lang/Object"), (k19, .object "java/lang/Object")]) (wz := [(h0, .inr (2, [.ref h1, .ref o0, .ref o1, .ref h2])), (h3, .inl (kc0, 10, .inr (.inr (.inr (.inr (va_up (fun _ => none) 0 (some h4))))))), (h5, .inr (0, [.int 0, .ref z.1, .int 0])), (h2, .inr (0, [.int 2, .ref a18, .int 1])), (h4, .inr (3, [.int 0, .ref (z.2.1 0), .ref h5, .null, .int 0, .int 0, .int 120, .int 120, .int 0, .int 0, .int 0, .int 120, .int 120, .int 0, .int 0, .int 0, .ref h4, .int 1, .int 0])), (a18, .inl (k19, 10, .inr (.inr (.inr (.inr (va_up (fun _ => none) 0 (some h4))))))), (h1, .inr (0, [.int 1, .ref h3, .int 1]))]) (tz := [(kc0, .object "java/lang/Object"), (k19, .object "java/lang/Object")]) hP hD hK [1] [0, 2, 3, 4, 5, 6] [0, 1] rfl rfl (by decide) (by decide) rfl hk22 hF20 hB22.1 ht22 hvm22 rfl rfl
  have hG : s.heap.size + 1 ≤ H22.size := Nat.le_trans hG hz22
  refine W.eq (g2 := F0 m 10 ls [.int 1, .int 1]) (by rw [hw22]) ?_
  refine lv_icmp_ge (tgt := 59) hx hb dX0_placeThoseReady_10 (by decide) (fun _ => ?_) (fun cz => absurd (by decide) cz)
  exact W.vret hx hb hr (fun t9 ht9 hW9 => ⟨⟨(), rfl, trivial, ⟨a18, k19, ⟨pq_mk (wc := [(h0, .inr (2, [.ref h1, .ref o0, .ref o1, .ref h2])), (h1, .inr (0, [.int 1, .ref h3, .int 1])), (h2, .inr (0, [.int 2, .ref a18, .int 1])), (h3, .inl (kc0, 10, .inr (.inr (.inr (.inr (va_up (fun _ => none) 0 (some h4))))))), (h4, .inr (3, [.int 0, .ref (z.2.1 0), .ref h5, .null, .int 0, .int 0, .int 120, .int 120, .int 0, .int 0, .int 0, .int 120, .int 120, .int 0, .int 0, .int 0, .ref h4, .int 1, .int 0])), (h5, .inr (0, [.int 0, .ref z.1, .int 0])), (a18, .inl (k19, 10, .inr (.inr (.inr (.inr (va_up (fun _ => none) 0 (some h4)))))))]) (tc := [(kc0, .object "java/lang/Object"), (k19, .object "java/lang/Object")]) hP hD hK [0, 6, 3, 1, 4, 2, 5] [0, 1] rfl rfl rfl rfl ht9 hW9, by rw [ht9]; exact Nat.le_trans (Nat.add_le_add_left (Nat.le_of_ble_eq_true rfl) _) hG⟩⟩⟩, hS.F ht9⟩) hS.2.2 dX0_placeThoseReady_59
