set_option maxHeartbeats 4000000 in
set_option maxRecDepth 100000 in
theorem k1_init (l : Launch) (hl9 : l.stackTraces = false) (dC : Nat → ClassId) (dI : Nat → Nat → Nat) (z : XZ) (o0 : Nat) (sz : Nat) : Met l yJxa1e45_init_da8c8 (.code yJxa1e45_init_da8c8 cJxa1e45_init_da8c8 1 none :: wsL_law) ({ frames := 1, cells := 0, slots := 0, locals := 16 }) (va_Pc [.ref o0] (PC (dC, dI) [] [] sz z)) (va_Qv (fun (_ : Unit) => True) (fun (_ : Unit) (t : State) => PG (dC, dI) [] [] (va_A [] sz) sz 0 t) (va_A [] sz)) 0 0 (va_A [] sz) := by
  refine Met.ofW (cc := cJxa1e45_init_da8c8) (maxL := 1) (ret := none) (by decide) rfl ?_
  intro p e s m args below meth c s₁ B hml hv
  obtain ⟨rfl, hsz, hP, hK, hD0, hX, hT⟩ := hv
  have hx := B.exec
  have hb := B.bytes
  have hr := B.returns
  have hts0 := atoms_spec (ws := .code yJxa1e45_init_da8c8 cJxa1e45_init_da8c8 1 none :: wsL_law) B.pre
  have hts := xTail hts0
  have hown : s.vm.findClass RJxa1e45 = some m.cls := xown B.named rfl
  have hlocks := B.notSynchronized
  have hin : meth.name = "<init>" := (name_of_methodNamed B.named B.method).1
  subst hsz
  have hD := hD0.self (sz := s.heap.size)
  generalize hAe : va_A [] s.heap.size = A at hD hX ⊢
  have hA : ∀ q : Nat, s.heap.size ≤ q → A q := fun q h => by rw [← hAe]; exact Or.inr h
  have hS : va_S A s.heap s.heap [] := va_S.rf
  have hG : s.heap.size + 0 ≤ s.heap.size := Nat.le_refl _
  have hl := lv_entry ([.ref o0]) (n := 1) (Nat.le_of_ble_eq_true rfl)
  rw [lg_entry_eq]
  generalize (lg_sl ([.ref o0]) ++ List.replicate (1 - (lg_sl ([.ref o0])).length) Slot.unset).toArray = ls at hl ⊢
  have hl : lv_has ls 1 [(0, .ref o0)] := hl
  refine lv_aload_n hx hb dJxa1e45_init_da8c8_0 rfl (lv_at hl 0 rfl) ?_
  refine W.objInit hx hb hown (hts _ q_13) (hts _ q_4) (hts _ q_5) rfl (by rw [hml]; exact hl.1) rfl dJxa1e45_init_da8c8_1 (Nat.le_of_ble_eq_true rfl) (Nat.le_of_ble_eq_true rfl) ?_
  refine W.eq (g2 := F0 m 4 ls []) rfl ?_
  exact W.vret hx hb hr (fun t9 ht9 hW9 => ⟨⟨(), rfl, trivial, ⟨pq_mk2 hP hD hK [] [] rfl rfl rfl ht9 hW9, by rw [ht9]; exact Nat.le_trans (Nat.add_le_add_left (Nat.le_of_ble_eq_true rfl) _) hG⟩⟩, hS.F ht9⟩) hS.2.2 dJxa1e45_init_da8c8_4

set_option maxHeartbeats 4000000 in
set_option maxRecDepth 100000 in
theorem k2_init (l : Launch) (hl9 : l.stackTraces = false) (dC : Nat → ClassId) (dI : Nat → Nat → Nat) (z : XZ) (h0 : Nat) (sz : Nat) : Met l yJxc12de_init_da8c8 (.code yJxc12de_init_da8c8 cJxc12de_init_da8c8 1 none :: wsL_law) ({ frames := 2, cells := 0, slots := 0, locals := 36 }) (va_Pc [.ref h0] (PC (dC, dI) [(h0, ce2)] [] sz z)) (va_Qv (fun (_ : Unit) => True) (fun (_ : Unit) (t : State) => PG (dC, dI) [(h0, ce2)] [] (va_A [(h0, ce2)] sz) sz 0 t) (va_A [(h0, ce2)] sz)) 0 0 (va_A [(h0, ce2)] sz) := by
  refine Met.ofW (cc := cJxc12de_init_da8c8) (maxL := 1) (ret := none) (by decide) rfl ?_
  intro p e s m args below meth c s₁ B hml hv
  obtain ⟨rfl, hsz, hP, hK, hD0, hX, hT⟩ := hv
  have hx := B.exec
  have hb := B.bytes
  have hr := B.returns
  have hts0 := atoms_spec (ws := .code yJxc12de_init_da8c8 cJxc12de_init_da8c8 1 none :: wsL_law) B.pre
  have hts := xTail hts0
  have hown : s.vm.findClass RJxc12de = some m.cls := xown B.named rfl
  have hlocks := B.notSynchronized
  have hin : meth.name = "<init>" := (name_of_methodNamed B.named B.method).1
  subst hsz
  have hD := hD0.self (sz := s.heap.size)
  generalize hAe : va_A [(h0, ce2)] s.heap.size = A at hD hX ⊢
  have hA : ∀ q : Nat, s.heap.size ≤ q → A q := fun q h => by rw [← hAe]; exact Or.inr h
  have hS : va_S A s.heap s.heap [] := va_S.rf
  have hG : s.heap.size + 0 ≤ s.heap.size := Nat.le_refl _
  have hl := lv_entry ([.ref h0]) (n := 1) (Nat.le_of_ble_eq_true rfl)
  rw [lg_entry_eq]
  generalize (lg_sl ([.ref h0]) ++ List.replicate (1 - (lg_sl ([.ref h0])).length) Slot.unset).toArray = ls at hl ⊢
  have hl : lv_has ls 1 [(0, .ref h0)] := hl
  refine lv_aload_n hx hb dJxc12de_init_da8c8_0 rfl (lv_at hl 0 rfl) ?_
  have hM3 := k1_init l hl9 dC dI z h0 s.heap.size
  obtain ⟨hF1, hC4⟩ := pc_M hM3 hP hD hK hS hX hT hA [] [] rfl rfl rfl
  refine va_callv (va_runI (As := []) (rest := []) ⟨hx, hb, hml, hown, hts⟩ hM3 (cwI 0 hts (gIL q_14) rfl rfl rfl (hts _ q_15) (hts _ q_16) (hts _ q_17) rfl hS_Jxa1e45_init_da8c8 ⟨Nat.le_of_ble_eq_true rfl, Nat.le_of_ble_eq_true rfl⟩) ⟨pc_blind, fun U hU hW => ⟨rfl, hC4 U hU hW⟩⟩ rfl rfl hl.1 rfl (lv_room (Nat.le_of_ble_eq_true rfl)) dJxc12de_init_da8c8_1 ⟨(Nat.le_of_ble_eq_true rfl), (Nat.le_of_ble_eq_true rfl)⟩) hS (fun q9 _ h9 => hF1 q9 h9) hF1 (fun u5 t5 H5 L5 ht5 hvm5 hw5 hB5 hz5 hk5 hS => ?_)
  have hP := pq_keep hP hD [] rfl hk5 hB5.1 ht5
  have hG : s.heap.size + 0 ≤ H5.size := Nat.le_trans hG hz5
  refine lv_aload_n hx hb dJxc12de_init_da8c8_4 rfl (lv_at hl 0 rfl) ?_
  refine lv_iconst (v := 0) hx hb dJxc12de_init_da8c8_5 (by decide) ?_
  refine va_put (D := (dC, dI)) (ci := 0) (v := .int 0) (ty := .int) (C := RJx4a65c) (T := TJx4a65c) (N := 3) hx hb hts in_Jx4a65c tyJx4a65c tyJx4a65c_ok nmJx4a65c hown hK hP hD (va_Sre hS) 0 rfl rfl 0 (by decide) (hts _ q_18) (fun _ h9 => h9) rfl (by decide +kernel) rfl rfl (Nat.le_of_ble_eq_true rfl) dJxc12de_init_da8c8_6 (fun H7 _ hP hD hS' => ?_)
  have hG : s.heap.size + 0 ≤ H7.size := Nat.le_trans hG hS'.1
  have hS := va_Str hS hS'
  have hP : va_P (dC, dI) xCl [(h0, ce2)] H7 := hP
  have hD := vd_as hP hD rfl
  exact W.vret hx hb hr (fun t9 ht9 hW9 => ⟨⟨(), rfl, trivial, ⟨pq_mk2 hP hD hK [0] [] rfl rfl rfl ht9 hW9, by rw [ht9]; exact Nat.le_trans (Nat.add_le_add_left (Nat.le_of_ble_eq_true rfl) _) hG⟩⟩, hS.F ht9⟩) hS.2.2 dJxc12de_init_da8c8_9

set_option maxHeartbeats 4000000 in
set_option maxRecDepth 100000 in
theorem k3_init (l : Launch) (hl9 : l.stackTraces = false) (dC : Nat → ClassId) (dI : Nat → Nat → Nat) (z : XZ) (h0 : Nat) (sz : Nat) : Met l yJx4a65c_init_da8c8 (.code yJx4a65c_init_da8c8 cJx4a65c_init_da8c8 1 none :: wsL_law) ({ frames := 3, cells := 0, slots := 0, locals := 56 }) (va_Pc [.ref h0] (PC (dC, dI) [(h0, ce2)] [] sz z)) (va_Qv (fun (_ : Unit) => True) (fun (_ : Unit) (t : State) => PG (dC, dI) [(h0, ce3 z.1)] [] (va_A [(h0, ce2)] sz) sz 0 t) (va_A [(h0, ce2)] sz)) 0 0 (va_A [(h0, ce2)] sz) := by
  refine Met.ofW (cc := cJx4a65c_init_da8c8) (maxL := 1) (ret := none) (by decide) rfl ?_
  intro p e s m args below meth c s₁ B hml hv
  obtain ⟨rfl, hsz, hP, hK, hD0, hX, hT⟩ := hv
  have hx := B.exec
  have hb := B.bytes
  have hr := B.returns
  have hts0 := atoms_spec (ws := .code yJx4a65c_init_da8c8 cJx4a65c_init_da8c8 1 none :: wsL_law) B.pre
  have hts := xTail hts0
  have hown : s.vm.findClass RJx4a65c = some m.cls := xown B.named rfl
  have hlocks := B.notSynchronized
  have hin : meth.name = "<init>" := (name_of_methodNamed B.named B.method).1
  subst hsz
  have hD := hD0.self (sz := s.heap.size)
  generalize hAe : va_A [(h0, ce2)] s.heap.size = A at hD hX ⊢
  have hA : ∀ q : Nat, s.heap.size ≤ q → A q := fun q h => by rw [← hAe]; exact Or.inr h
  have hS : va_S A s.heap s.heap [] := va_S.rf
  have hG : s.heap.size + 0 ≤ s.heap.size := Nat.le_refl _
  have hl := lv_entry ([.ref h0]) (n := 1) (Nat.le_of_ble_eq_true rfl)
  rw [lg_entry_eq]
  generalize (lg_sl ([.ref h0]) ++ List.replicate (1 - (lg_sl ([.ref h0])).length) Slot.unset).toArray = ls at hl ⊢
  have hl : lv_has ls 1 [(0, .ref h0)] := hl
  refine lv_aload_n hx hb dJx4a65c_init_da8c8_0 rfl (lv_at hl 0 rfl) ?_
  have hM3 := k2_init l hl9 dC dI z h0 s.heap.size
  obtain ⟨hF1, hC4⟩ := pc_M hM3 hP hD hK hS hX hT hA [0] [] rfl rfl rfl
  refine va_callv (va_runI (As := []) (rest := []) ⟨hx, hb, hml, hown, hts⟩ hM3 (cwI 0 hts (gIL q_19) rfl rfl rfl (hts _ q_20) (hts _ q_21) (hts _ q_22) rfl hS_Jxc12de_init_da8c8 ⟨Nat.le_of_ble_eq_true rfl, Nat.le_of_ble_eq_true rfl⟩) ⟨pc_blind, fun U hU hW => ⟨rfl, hC4 U hU hW⟩⟩ rfl rfl hl.1 rfl (lv_room (Nat.le_of_ble_eq_true rfl)) dJx4a65c_init_da8c8_1 ⟨(Nat.le_of_ble_eq_true rfl), (Nat.le_of_ble_eq_true rfl)⟩) hS (fun q9 _ h9 => hF1 q9 h9) hF1 (fun u5 t5 H5 L5 ht5 hvm5 hw5 hB5 hz5 hk5 hS => ?_)
  have hP := pq_keep hP hD [0] rfl hk5 hB5.1 ht5
  have hG : s.heap.size + 0 ≤ H5.size := Nat.le_trans hG hz5
  refine lv_aload_n hx hb dJx4a65c_init_da8c8_4 rfl (lv_at hl 0 rfl) ?_
  refine va_gets (own := RJx4a65c) (ref := "java/util/ArrayList") hx hb hX.1.1 hS hown (hts _ q_23) (fun _ h9 => h9) dJx4a65c_init_da8c8_5 ?_
  refine va_put (D := (dC, dI)) (ci := 0) (v := .ref z.1) (ty := .array (.object "java/lang/Object")) (C := RJx4a65c) (T := TJx4a65c) (N := 3) hx hb hts in_Jx4a65c tyJx4a65c tyJx4a65c_ok nmJx4a65c hown hK hP hD (va_Sre hS) 0 rfl rfl 1 (by decide) (hts _ q_24) (fun _ h9 => h9) rfl (by decide +kernel) rfl rfl (Nat.le_of_ble_eq_true rfl) dJx4a65c_init_da8c8_8 (fun H7 _ hP hD hS' => ?_)
  have hG : s.heap.size + 0 ≤ H7.size := Nat.le_trans hG hS'.1
  have hS := va_Str hS hS'
  have hP : va_P (dC, dI) xCl [(h0, ce3 z.1)] H7 := hP
  have hD := vd_as hP hD rfl
  exact W.vret hx hb hr (fun t9 ht9 hW9 => ⟨⟨(), rfl, trivial, ⟨pq_mk2 hP hD hK [0] [] rfl rfl rfl ht9 hW9, by rw [ht9]; exact Nat.le_trans (Nat.add_le_add_left (Nat.le_of_ble_eq_true rfl) _) hG⟩⟩, hS.F ht9⟩) hS.2.2 dJx4a65c_init_da8c8_11

set_option maxHeartbeats 4000000 in
set_option maxRecDepth 100000 in
theorem k4_init (l : Launch) (hl9 : l.stackTraces = false) (dC : Nat → ClassId) (dI : Nat → Nat → Nat) (z : XZ) (h0 : Nat) (sz : Nat) : Met l yX0_init (.code yX0_init cX0_init 1 none :: wsL_law) ({ frames := 4, cells := 4, slots := 12, locals := 76 }) (va_Pc [.ref h0] (PC (dC, dI) [(h0, ce1)] [] sz z)) (va_Qv (fun (_ : Unit) => True) (fun (_ : Unit) (t : State) => ∃ (n0 n1 n2 n3 : Nat), PG (dC, dI) [(h0, ce7 n0 n1 n2 n3), (n0, ce3 z.1), (n1, ce3 z.1), (n2, ce3 z.1), (n3, ce3 z.1)] [] (va_A [(h0, ce1)] sz) sz 4 t) (va_A [(h0, ce1)] sz)) 4 12 (va_A [(h0, ce1)] sz) := by
  refine Met.ofW (cc := cX0_init) (maxL := 1) (ret := none) (by decide) rfl ?_
  intro p e s m args below meth c s₁ B hml hv
  obtain ⟨rfl, hsz, hP, hK, hD0, hX, hT⟩ := hv
  have hx := B.exec
  have hb := B.bytes
  have hr := B.returns
  have hts0 := atoms_spec (ws := .code yX0_init cX0_init 1 none :: wsL_law) B.pre
  have hts := xTail hts0
  have hown : s.vm.findClass RX0 = some m.cls := xown B.named rfl
  have hlocks := B.notSynchronized
  have hin : meth.name = "<init>" := (name_of_methodNamed B.named B.method).1
  subst hsz
  have hD := hD0.self (sz := s.heap.size)
  generalize hAe : va_A [(h0, ce1)] s.heap.size = A at hD hX ⊢
  have hA : ∀ q : Nat, s.heap.size ≤ q → A q := fun q h => by rw [← hAe]; exact Or.inr h
  have hS : va_S A s.heap s.heap [] := va_S.rf
  have hG : s.heap.size + 0 ≤ s.heap.size := Nat.le_refl _
  have hl := lv_entry ([.ref h0]) (n := 1) (Nat.le_of_ble_eq_true rfl)
  rw [lg_entry_eq]
  generalize (lg_sl ([.ref h0]) ++ List.replicate (1 - (lg_sl ([.ref h0])).length) Slot.unset).toArray = ls at hl ⊢
  have hl : lv_has ls 1 [(0, .ref h0)] := hl
  refine lv_aload_n hx hb dX0_init_0 rfl (lv_at hl 0 rfl) ?_
  refine W.objInit hx hb hown (hts _ q_9) (hts _ q_4) (hts _ q_5) rfl (by rw [hml]; exact hl.1) rfl dX0_init_1 (Nat.le_of_ble_eq_true rfl) (Nat.le_of_ble_eq_true rfl) ?_
  refine W.eq (g2 := F0 m 4 ls []) rfl ?_
  refine lv_aload_n hx hb dX0_init_4 rfl (lv_at hl 0 rfl) ?_
  refine xa_new (ci := 0) (fs := [.int 0, .null, .int 0]) (C := RJx4a65c) (T := TJx4a65c) (N := 3) hx hb hts in_Jx4a65c tyJx4a65c tyJx4a65c_ok hown (hts _ q_10) (hts _ q_11) (hts _ q_12) hK hP hD hS hA rfl nf_Jx4a65c (Nat.le_of_ble_eq_true rfl) (Nat.le_of_ble_eq_true rfl) dX0_init_5 (fun a1 H2 hg8 hP hD hS => ?_)
  have hG : s.heap.size + 1 ≤ H2.size := by rw [hg8]; exact Nat.succ_le_succ hG
  have hP : va_P (dC, dI) xCl [(h0, ce1), (a1, ce2)] H2 := hP
  have hD := vd_as hP hD rfl
  refine W.widen (k := 1) (n := 3) (by decide) (by decide) ?_
  refine lv_dup hx hb dX0_init_8 rfl ?_
  have hM5 := k3_init l hl9 dC dI z a1 H2.size
  obtain ⟨hF3, hC6⟩ := pc_M hM5 hP hD hK hS hX hT hA [1] [] rfl rfl rfl
  refine va_callv (va_runI (As := []) (rest := [.ref a1, .ref h0]) ⟨hx, hb, hml, hown, hts⟩ hM5 (cwI 0 hts (gIL q_25) rfl rfl rfl (hts _ q_12) (hts _ q_26) (hts _ q_27) rfl hS_Jx4a65c_init_da8c8 ⟨Nat.le_of_ble_eq_true rfl, Nat.le_of_ble_eq_true rfl⟩) ⟨pc_blind, fun U hU hW => ⟨rfl, hC6 U hU hW⟩⟩ rfl rfl hl.1 rfl (lv_room (Nat.le_of_ble_eq_true rfl)) dX0_init_9 ⟨(Nat.le_of_ble_eq_true rfl), (Nat.le_of_ble_eq_true rfl)⟩) hS (fun q9 _ h9 => hF3 q9 h9) hF3 (fun u7 t7 H7 L7 ht7 hvm7 hw7 hB7 hz7 hk7 hS => ?_)
  obtain ⟨hP, hD, hK⟩ := pq_jn (wz := [(h0, ce1), (a1, ce3 z.1)]) (tz := []) hP hD hK [1] [] rfl hk7 hF3 hB7.1 ht7 hvm7 rfl rfl
  have hG : s.heap.size + 1 ≤ H7.size := Nat.le_trans hG hz7
  refine va_putF (D := (dC, dI)) (ci := 2) (v := .ref a1) (ty := .object "java/util/ArrayList") (C := RX0) (T := TX0) (N := 4) hx hb hts in_X0 tyX0 tyX0_ok nmX0 hown hK hP hD (va_Sre hS) 0 rfl rfl 0 (by decide) (hts _ q_28) (fun _ h9 => h9) rfl hin rfl (by decide +kernel) rfl rfl (Nat.le_of_ble_eq_true rfl) dX0_init_12 (fun H9 _ hP hD hS' => ?_)
  have hG : s.heap.size + 1 ≤ H9.size := Nat.le_trans hG hS'.1
  have hS := va_Str hS hS'
  have hP : va_P (dC, dI) xCl [(h0, ce4 a1), (a1, ce3 z.1)] H9 := hP
  have hD := vd_as hP hD rfl
  refine lv_aload_n hx hb dX0_init_15 rfl (lv_at hl 0 rfl) ?_
  refine xa_new (ci := 0) (fs := [.int 0, .null, .int 0]) (C := RJx4a65c) (T := TJx4a65c) (N := 3) hx hb hts in_Jx4a65c tyJx4a65c tyJx4a65c_ok hown (hts _ q_10) (hts _ q_11) (hts _ q_12) hK hP hD hS hA rfl nf_Jx4a65c (Nat.le_of_ble_eq_true rfl) (Nat.le_of_ble_eq_true rfl) dX0_init_16 (fun a10 H11 hg8 hP hD hS => ?_)
  have hG : s.heap.size + 2 ≤ H11.size := by rw [hg8]; exact Nat.succ_le_succ hG
  have hP : va_P (dC, dI) xCl [(h0, ce4 a1), (a1, ce3 z.1), (a10, ce2)] H11 := hP
  have hD := vd_as hP hD rfl
  refine W.widen (k := 2) (n := 6) (by decide) (by decide) ?_
  refine lv_dup hx hb dX0_init_19 rfl ?_
  have hM14 := k3_init l hl9 dC dI z a10 H11.size
  obtain ⟨hF12, hC15⟩ := pc_M hM14 hP hD hK hS hX hT hA [2] [] rfl rfl rfl
  refine va_callv (va_runI (As := []) (rest := [.ref a10, .ref h0]) ⟨hx, hb, hml, hown, hts⟩ hM14 (cwI 0 hts (gIL q_25) rfl rfl rfl (hts _ q_12) (hts _ q_26) (hts _ q_27) rfl hS_Jx4a65c_init_da8c8 ⟨Nat.le_of_ble_eq_true rfl, Nat.le_of_ble_eq_true rfl⟩) ⟨pc_blind, fun U hU hW => ⟨rfl, hC15 U hU hW⟩⟩ rfl rfl hl.1 rfl (lv_room (Nat.le_of_ble_eq_true rfl)) dX0_init_20 ⟨(Nat.le_of_ble_eq_true rfl), (Nat.le_of_ble_eq_true rfl)⟩) hS (fun q9 _ h9 => hF12 q9 h9) hF12 (fun u16 t16 H16 L16 ht16 hvm16 hw16 hB16 hz16 hk16 hS => ?_)
  obtain ⟨hP, hD, hK⟩ := pq_jn (wz := [(h0, ce4 a1), (a1, ce3 z.1), (a10, ce3 z.1)]) (tz := []) hP hD hK [2] [] rfl hk16 hF12 hB16.1 ht16 hvm16 rfl rfl
  have hG : s.heap.size + 2 ≤ H16.size := Nat.le_trans hG hz16
  refine va_putF (D := (dC, dI)) (ci := 2) (v := .ref a10) (ty := .object "java/util/ArrayList") (C := RX0) (T := TX0) (N := 4) hx hb hts in_X0 tyX0 tyX0_ok nmX0 hown hK hP hD (va_Sre hS) 0 rfl rfl 1 (by decide) (hts _ q_29) (fun _ h9 => h9) rfl hin rfl (by decide +kernel) rfl rfl (Nat.le_of_ble_eq_true rfl) dX0_init_23 (fun H18 _ hP hD hS' => ?_)
  have hG : s.heap.size + 2 ≤ H18.size := Nat.le_trans hG hS'.1
  have hS := va_Str hS hS'
  have hP : va_P (dC, dI) xCl [(h0, ce5 a1 a10), (a1, ce3 z.1), (a10, ce3 z.1)] H18 := hP
  have hD := vd_as hP hD rfl
  refine lv_aload_n hx hb dX0_init_26 rfl (lv_at hl 0 rfl) ?_
  refine xa_new (ci := 0) (fs := [.int 0, .null, .int 0]) (C := RJx4a65c) (T := TJx4a65c) (N := 3) hx hb hts in_Jx4a65c tyJx4a65c tyJx4a65c_ok hown (hts _ q_10) (hts _ q_11) (hts _ q_12) hK hP hD hS hA rfl nf_Jx4a65c (Nat.le_of_ble_eq_true rfl) (Nat.le_of_ble_eq_true rfl) dX0_init_27 (fun a19 H20 hg8 hP hD hS => ?_)
  have hG : s.heap.size + 3 ≤ H20.size := by rw [hg8]; exact Nat.succ_le_succ hG
  have hP : va_P (dC, dI) xCl [(h0, ce5 a1 a10), (a1, ce3 z.1), (a10, ce3 z.1), (a19, ce2)] H20 := hP
  have hD := vd_as hP hD rfl
  refine W.widen (k := 3) (n := 9) (by decide) (by decide) ?_
  refine lv_dup hx hb dX0_init_30 rfl ?_
  have hM23 := k3_init l hl9 dC dI z a19 H20.size
  obtain ⟨hF21, hC24⟩ := pc_M hM23 hP hD hK hS hX hT hA [3] [] rfl rfl rfl
  refine va_callv (va_runI (As := []) (rest := [.ref a19, .ref h0]) ⟨hx, hb, hml, hown, hts⟩ hM23 (cwI 0 hts (gIL q_25) rfl rfl rfl (hts _ q_12) (hts _ q_26) (hts _ q_27) rfl hS_Jx4a65c_init_da8c8 ⟨Nat.le_of_ble_eq_true rfl, Nat.le_of_ble_eq_true rfl⟩) ⟨pc_blind, fun U hU hW => ⟨rfl, hC24 U hU hW⟩⟩ rfl rfl hl.1 rfl (lv_room (Nat.le_of_ble_eq_true rfl)) dX0_init_31 ⟨(Nat.le_of_ble_eq_true rfl), (Nat.le_of_ble_eq_true rfl)⟩) hS (fun q9 _ h9 => hF21 q9 h9) hF21 (fun u25 t25 H25 L25 ht25 hvm25 hw25 hB25 hz25 hk25 hS => ?_)
  obtain ⟨hP, hD, hK⟩ := pq_jn (wz := [(h0, ce5 a1 a10), (a1, ce3 z.1), (a10, ce3 z.1), (a19, ce3 z.1)]) (tz := []) hP hD hK [3] [] rfl hk25 hF21 hB25.1 ht25 hvm25 rfl rfl
  have hG : s.heap.size + 3 ≤ H25.size := Nat.le_trans hG hz25
  refine va_putF (D := (dC, dI)) (ci := 2) (v := .ref a19) (ty := .object "java/util/ArrayList") (C := RX0) (T := TX0) (N := 4) hx hb hts in_X0 tyX0 tyX0_ok nmX0 hown hK hP hD (va_Sre hS) 0 rfl rfl 2 (by decide) (hts _ q_30) (fun _ h9 => h9) rfl hin rfl (by decide +kernel) rfl rfl (Nat.le_of_ble_eq_true rfl) dX0_init_34 (fun H27 _ hP hD hS' => ?_)
  have hG : s.heap.size + 3 ≤ H27.size := Nat.le_trans hG hS'.1
  have hS := va_Str hS hS'
  have hP : va_P (dC, dI) xCl [(h0, ce6 a1 a10 a19), (a1, ce3 z.1), (a10, ce3 z.1), (a19, ce3 z.1)] H27 := hP
  have hD := vd_as hP hD rfl
  refine lv_aload_n hx hb dX0_init_37 rfl (lv_at hl 0 rfl) ?_
  refine xa_new (ci := 0) (fs := [.int 0, .null, .int 0]) (C := RJx4a65c) (T := TJx4a65c) (N := 3) hx hb hts in_Jx4a65c tyJx4a65c tyJx4a65c_ok hown (hts _ q_10) (hts _ q_11) (hts _ q_12) hK hP hD hS hA rfl nf_Jx4a65c (Nat.le_of_ble_eq_true rfl) (Nat.le_of_ble_eq_true rfl) dX0_init_38 (fun a28 H29 hg8 hP hD hS => ?_)
  have hG : s.heap.size + 4 ≤ H29.size := by rw [hg8]; exact Nat.succ_le_succ hG
  have hP : va_P (dC, dI) xCl [(h0, ce6 a1 a10 a19), (a1, ce3 z.1), (a10, ce3 z.1), (a19, ce3 z.1), (a28, ce2)] H29 := hP
  have hD := vd_as hP hD rfl
  refine W.widen (k := 4) (n := 12) (by decide) (by decide) ?_
  refine lv_dup hx hb dX0_init_41 rfl ?_
  have hM32 := k3_init l hl9 dC dI z a28 H29.size
  obtain ⟨hF30, hC33⟩ := pc_M hM32 hP hD hK hS hX hT hA [4] [] rfl rfl rfl
  refine va_callv (va_runI (As := []) (rest := [.ref a28, .ref h0]) ⟨hx, hb, hml, hown, hts⟩ hM32 (cwI 0 hts (gIL q_25) rfl rfl rfl (hts _ q_12) (hts _ q_26) (hts _ q_27) rfl hS_Jx4a65c_init_da8c8 ⟨Nat.le_of_ble_eq_true rfl, Nat.le_of_ble_eq_true rfl⟩) ⟨pc_blind, fun U hU hW => ⟨rfl, hC33 U hU hW⟩⟩ rfl rfl hl.1 rfl (lv_room (Nat.le_of_ble_eq_true rfl)) dX0_init_42 ⟨(Nat.le_of_ble_eq_true rfl), (Nat.le_of_ble_eq_true rfl)⟩) hS (fun q9 _ h9 => hF30 q9 h9) hF30 (fun u34 t34 H34 L34 ht34 hvm34 hw34 hB34 hz34 hk34 hS => ?_)
  obtain ⟨hP, hD, hK⟩ := pq_jn (wz := [(h0, ce6 a1 a10 a19), (a1, ce3 z.1), (a10, ce3 z.1), (a19, ce3 z.1), (a28, ce3 z.1)]) (tz := []) hP hD hK [4] [] rfl hk34 hF30 hB34.1 ht34 hvm34 rfl rfl
  have hG : s.heap.size + 4 ≤ H34.size := Nat.le_trans hG hz34
  refine va_putF (D := (dC, dI)) (ci := 2) (v := .ref a28) (ty := .object "java/util/ArrayList") (C := RX0) (T := TX0) (N := 4) hx hb hts in_X0 tyX0 tyX0_ok nmX0 hown hK hP hD (va_Sre hS) 0 rfl rfl 3 (by decide) (hts _ q_31) (fun _ h9 => h9) rfl hin rfl (by decide +kernel) rfl rfl (Nat.le_of_ble_eq_true rfl) dX0_init_45 (fun H36 _ hP hD hS' => ?_)
  have hG : s.heap.size + 4 ≤ H36.size := Nat.le_trans hG hS'.1
  have hS := va_Str hS hS'
  have hP : va_P (dC, dI) xCl [(h0, ce7 a1 a10 a19 a28), (a1, ce3 z.1), (a10, ce3 z.1), (a19, ce3 z.1), (a28, ce3 z.1)] H36 := hP
  have hD := vd_as hP hD rfl
  exact W.vret hx hb hr (fun t9 ht9 hW9 => ⟨⟨(), rfl, trivial, ⟨a1, a10, a19, a28, ⟨pq_mk2 hP hD hK [0, 1, 2, 3, 4] [] rfl rfl rfl ht9 hW9, by rw [ht9]; exact Nat.le_trans (Nat.add_le_add_left (Nat.le_of_ble_eq_true rfl) _) hG⟩⟩⟩, hS.F ht9⟩) hS.2.2 dX0_init_48

set_option maxHeartbeats 4000000 in
set_option maxRecDepth 100000 in
theorem k5_init (l : Launch) (hl9 : l.stackTraces = false) (dC : Nat → ClassId) (dI : Nat → Nat → Nat) (z : XZ) (h0 : Nat) (o0 : Nat) (sz : Nat) : Met l yX5_init (.code yX5_init cX5_init 2 none :: wsL_law) ({ frames := 1, cells := 0, slots := 0, locals := 16 }) (va_Pc [.ref h0, .ref o0] (PC (dC, dI) [(h0, ce9)] [] sz z)) (va_Qv (fun (_ : Unit) => True) (fun (_ : Unit) (t : State) => PG (dC, dI) [(h0, ce10 o0)] [] (va_A [(h0, ce9)] sz) sz 0 t) (va_A [(h0, ce9)] sz)) 0 0 (va_A [(h0, ce9)] sz) := by
  refine Met.ofW (cc := cX5_init) (maxL := 2) (ret := none) (by decide) rfl ?_
  intro p e s m args below meth c s₁ B hml hv
  obtain ⟨rfl, hsz, hP, hK, hD0, hX, hT⟩ := hv
  have hx := B.exec
  have hb := B.bytes
  have hr := B.returns
  have hts0 := atoms_spec (ws := .code yX5_init cX5_init 2 none :: wsL_law) B.pre
  have hts := xTail hts0
  have hown : s.vm.findClass RX5 = some m.cls := xown B.named rfl
  have hlocks := B.notSynchronized
  have hin : meth.name = "<init>" := (name_of_methodNamed B.named B.method).1
  subst hsz
  have hD := hD0.self (sz := s.heap.size)
  generalize hAe : va_A [(h0, ce9)] s.heap.size = A at hD hX ⊢
  have hA : ∀ q : Nat, s.heap.size ≤ q → A q := fun q h => by rw [← hAe]; exact Or.inr h
  have hS : va_S A s.heap s.heap [] := va_S.rf
  have hG : s.heap.size + 0 ≤ s.heap.size := Nat.le_refl _
  have hl := lv_entry ([.ref h0, .ref o0]) (n := 2) (Nat.le_of_ble_eq_true rfl)
  rw [lg_entry_eq]
  generalize (lg_sl ([.ref h0, .ref o0]) ++ List.replicate (2 - (lg_sl ([.ref h0, .ref o0])).length) Slot.unset).toArray = ls at hl ⊢
  have hl : lv_has ls 2 [(0, .ref h0), (1, .ref o0)] := hl
  refine lv_aload_n hx hb dX5_init_0 rfl (lv_at hl 0 rfl) ?_
  refine W.objInit hx hb hown (hts _ q_38) (hts _ q_4) (hts _ q_5) rfl (by rw [hml]; exact hl.1) rfl dX5_init_1 (Nat.le_of_ble_eq_true rfl) (Nat.le_of_ble_eq_true rfl) ?_
  refine W.eq (g2 := F0 m 4 ls []) rfl ?_
  refine lv_aload_n hx hb dX5_init_4 rfl (lv_at hl 0 rfl) ?_
  refine lv_aload_n hx hb dX5_init_5 rfl (lv_at hl 1 rfl) ?_
  refine va_putF (D := (dC, dI)) (ci := 5) (v := .ref o0) (ty := .object "Deltacycle$Circuit") (C := RX5) (T := TX5) (N := 2) hx hb hts in_X5 tyX5 tyX5_ok nmX5 hown hK hP hD (va_Sre hS) 0 rfl rfl 0 (by decide) (hts _ q_39) (fun _ h9 => h9) rfl hin rfl (by decide +kernel) rfl rfl (Nat.le_of_ble_eq_true rfl) dX5_init_6 (fun H1 _ hP hD hS' => ?_)
  have hG : s.heap.size + 0 ≤ H1.size := Nat.le_trans hG hS'.1
  have hS := va_Str hS hS'
  have hP : va_P (dC, dI) xCl [(h0, ce10 o0)] H1 := hP
  have hD := vd_as hP hD rfl
  exact W.vret hx hb hr (fun t9 ht9 hW9 => ⟨⟨(), rfl, trivial, ⟨pq_mk2 hP hD hK [0] [] rfl rfl rfl ht9 hW9, by rw [ht9]; exact Nat.le_trans (Nat.add_le_add_left (Nat.le_of_ble_eq_true rfl) _) hG⟩⟩, hS.F ht9⟩) hS.2.2 dX5_init_9

set_option maxHeartbeats 4000000 in
set_option maxRecDepth 100000 in
theorem k6_init (l : Launch) (hl9 : l.stackTraces = false) (dC : Nat → ClassId) (dI : Nat → Nat → Nat) (z : XZ) (h0 : Nat) (o0 : Nat) (sz : Nat) : Met l yX4_init (.code yX4_init cX4_init 2 none :: wsL_law) ({ frames := 1, cells := 1, slots := 8, locals := 16 }) (va_Pc [.ref h0, .ref o0] (PC (dC, dI) [(h0, ce12)] [] sz z)) (va_Qv (fun (_ : Unit) => True) (fun (_ : Unit) (t : State) => ∃ (n0 : Nat), ∃ (m0 : ClassId), PG (dC, dI) [(h0, ce15 o0 n0), (n0, ce13 m0)] [(m0, .int)] (va_A [(h0, ce12)] sz) sz 1 t) (va_A [(h0, ce12)] sz)) 1 8 (va_A [(h0, ce12)] sz) := by
  refine Met.ofW (cc := cX4_init) (maxL := 2) (ret := none) (by decide) rfl ?_
  intro p e s m args below meth c s₁ B hml hv
  obtain ⟨rfl, hsz, hP, hK, hD0, hX, hT⟩ := hv
  have hx := B.exec
  have hb := B.bytes
  have hr := B.returns
  have hts0 := atoms_spec (ws := .code yX4_init cX4_init 2 none :: wsL_law) B.pre
  have hts := xTail hts0
  have hown : s.vm.findClass RX4 = some m.cls := xown B.named rfl
  have hlocks := B.notSynchronized
  have hin : meth.name = "<init>" := (name_of_methodNamed B.named B.method).1
  subst hsz
  have hD := hD0.self (sz := s.heap.size)
  generalize hAe : va_A [(h0, ce12)] s.heap.size = A at hD hX ⊢
  have hA : ∀ q : Nat, s.heap.size ≤ q → A q := fun q h => by rw [← hAe]; exact Or.inr h
  have hS : va_S A s.heap s.heap [] := va_S.rf
  have hG : s.heap.size + 0 ≤ s.heap.size := Nat.le_refl _
  have hl := lv_entry ([.ref h0, .ref o0]) (n := 2) (Nat.le_of_ble_eq_true rfl)
  rw [lg_entry_eq]
  generalize (lg_sl ([.ref h0, .ref o0]) ++ List.replicate (2 - (lg_sl ([.ref h0, .ref o0])).length) Slot.unset).toArray = ls at hl ⊢
  have hl : lv_has ls 2 [(0, .ref h0), (1, .ref o0)] := hl
  refine lv_aload_n hx hb dX4_init_0 rfl (lv_at hl 0 rfl) ?_
  refine W.objInit hx hb hown (hts _ q_47) (hts _ q_4) (hts _ q_5) rfl (by rw [hml]; exact hl.1) rfl dX4_init_1 (Nat.le_of_ble_eq_true rfl) (Nat.le_of_ble_eq_true rfl) ?_
  refine W.eq (g2 := F0 m 4 ls []) rfl ?_
  refine lv_aload_n hx hb dX4_init_4 rfl (lv_at hl 0 rfl) ?_
  refine lv_bipush (v := 8) hx hb dX4_init_5 (by decide) ?_
  refine xa_newa (atype := .int) hx hb (hts _ q_48) rfl hK hP hD hS hA (n := 8) (N' := 8) (a0 := (8, .inl (fun _ => 0))) (fun _ => rfl) (by decide) (by decide) (Nat.le_of_ble_eq_true rfl) (Nat.le_of_ble_eq_true rfl) (Nat.le_of_ble_eq_true rfl) dX4_init_7 (fun a1 k2 H3 hg8 hK hP hD hS => ?_)
  have hG : s.heap.size + 1 ≤ H3.size := by rw [hg8]; exact Nat.succ_le_succ hG
  have hK : va_K (dC, dI) xCl [(k2, .int)] s := hK
  have hP : va_P (dC, dI) xCl [(h0, ce12), (a1, ce13 k2)] H3 := hP
  have hD := vd_as hP hD rfl
  refine W.widen (k := 1) (n := 8) (by decide) (by decide) ?_
  refine va_putF (D := (dC, dI)) (ci := 4) (v := .ref a1) (ty := .array .int) (C := RX4) (T := TX4) (N := 3) hx hb hts in_X4 tyX4 tyX4_ok nmX4 hown hK hP hD (va_Sre hS) 0 rfl rfl 1 (by decide) (hts _ q_49) (fun _ h9 => h9) rfl hin rfl (by decide +kernel) rfl rfl (Nat.le_of_ble_eq_true rfl) dX4_init_9 (fun H4 _ hP hD hS' => ?_)
  have hG : s.heap.size + 1 ≤ H4.size := Nat.le_trans hG hS'.1
  have hS := va_Str hS hS'
  have hP : va_P (dC, dI) xCl [(h0, ce14 a1), (a1, ce13 k2)] H4 := hP
  have hD := vd_as hP hD rfl
  refine lv_aload_n hx hb dX4_init_12 rfl (lv_at hl 0 rfl) ?_
  refine lv_aload_n hx hb dX4_init_13 rfl (lv_at hl 1 rfl) ?_
  refine va_putF (D := (dC, dI)) (ci := 4) (v := .ref o0) (ty := .object "Deltacycle$Circuit") (C := RX4) (T := TX4) (N := 3) hx hb hts in_X4 tyX4 tyX4_ok nmX4 hown hK hP hD (va_Sre hS) 0 rfl rfl 0 (by decide) (hts _ q_50) (fun _ h9 => h9) rfl hin rfl (by decide +kernel) rfl rfl (Nat.le_of_ble_eq_true rfl) dX4_init_14 (fun H5 _ hP hD hS' => ?_)
  have hG : s.heap.size + 1 ≤ H5.size := Nat.le_trans hG hS'.1
  have hS := va_Str hS hS'
  have hP : va_P (dC, dI) xCl [(h0, ce15 o0 a1), (a1, ce13 k2)] H5 := hP
  have hD := vd_as hP hD rfl
  exact W.vret hx hb hr (fun t9 ht9 hW9 => ⟨⟨(), rfl, trivial, ⟨a1, k2, ⟨pq_mk2 hP hD hK [0, 1] [0] rfl rfl rfl ht9 hW9, by rw [ht9]; exact Nat.le_trans (Nat.add_le_add_left (Nat.le_of_ble_eq_true rfl) _) hG⟩⟩⟩, hS.F ht9⟩) hS.2.2 dX4_init_17

set_option maxHeartbeats 4000000 in
set_option maxRecDepth 100000 in
theorem k7_init (l : Launch) (hl9 : l.stackTraces = false) (dC : Nat → ClassId) (dI : Nat → Nat → Nat) (z : XZ) (h0 : Nat) (sz : Nat) : Met l yX6_init (.code yX6_init cX6_init 1 none :: wsL_law) ({ frames := 5, cells := 8, slots := 29, locals := 96 }) (va_Pc [.ref h0] (PC (dC, dI) [(h0, ce0)] [] sz z)) (va_Qv (fun (_ : Unit) => True) (fun (_ : Unit) (t : State) => ∃ (n0 n1 n2 n3 n4 n5 n6 n7 : Nat), ∃ (m0 : ClassId), PG (dC, dI) [(h0, ce16 n0 n1 n2), (n0, ce7 n3 n4 n5 n6), (n1, ce10 n0), (n2, ce15 n0 n7), (n3, ce3 z.1), (n4, ce3 z.1), (n5, ce3 z.1), (n6, ce3 z.1), (n7, ce13 m0)] [(m0, .int)] (va_A [(h0, ce0)] sz) sz 8 t) (va_A [(h0, ce0)] sz)) 8 29 (va_A [(h0, ce0)] sz) := by
  refine Met.ofW (cc := cX6_init) (maxL := 1) (ret := none) (by decide) rfl ?_
  intro p e s m args below meth c s₁ B hml hv
  obtain ⟨rfl, hsz, hP, hK, hD0, hX, hT⟩ := hv
  have hx := B.exec
  have hb := B.bytes
  have hr := B.returns
  have hts0 := atoms_spec (ws := .code yX6_init cX6_init 1 none :: wsL_law) B.pre
  have hts := xTail hts0
  have hown : s.vm.findClass RX6 = some m.cls := xown B.named rfl
  have hlocks := B.notSynchronized
  have hin : meth.name = "<init>" := (name_of_methodNamed B.named B.method).1
  subst hsz
  have hD := hD0.self (sz := s.heap.size)
  generalize hAe : va_A [(h0, ce0)] s.heap.size = A at hD hX ⊢
  have hA : ∀ q : Nat, s.heap.size ≤ q → A q := fun q h => by rw [← hAe]; exact Or.inr h
  have hS : va_S A s.heap s.heap [] := va_S.rf
  have hG : s.heap.size + 0 ≤ s.heap.size := Nat.le_refl _
  have hl := lv_entry ([.ref h0]) (n := 1) (Nat.le_of_ble_eq_true rfl)
  rw [lg_entry_eq]
  generalize (lg_sl ([.ref h0]) ++ List.replicate (1 - (lg_sl ([.ref h0])).length) Slot.unset).toArray = ls at hl ⊢
  have hl : lv_has ls 1 [(0, .ref h0)] := hl
  refine lv_aload_n hx hb dX6_init_0 rfl (lv_at hl 0 rfl) ?_
  refine W.objInit hx hb hown (hts _ q_3) (hts _ q_4) (hts _ q_5) rfl (by rw [hml]; exact hl.1) rfl dX6_init_1 (Nat.le_of_ble_eq_true rfl) (Nat.le_of_ble_eq_true rfl) ?_
  refine W.eq (g2 := F0 m 4 ls []) rfl ?_
  refine lv_aload_n hx hb dX6_init_4 rfl (lv_at hl 0 rfl) ?_
  refine xa_new (ci := 2) (fs := [.null, .null, .null, .null]) (C := RX0) (T := TX0) (N := 4) hx hb hts in_X0 tyX0 tyX0_ok hown (hts _ q_6) (hts _ q_7) (hts _ q_8) hK hP hD hS hA rfl nf_X0 (Nat.le_of_ble_eq_true rfl) (Nat.le_of_ble_eq_true rfl) dX6_init_5 (fun a1 H2 hg8 hP hD hS => ?_)
  have hG : s.heap.size + 1 ≤ H2.size := by rw [hg8]; exact Nat.succ_le_succ hG
  have hP : va_P (dC, dI) xCl [(h0, ce0), (a1, ce1)] H2 := hP
  have hD := vd_as hP hD rfl
  refine W.widen (k := 1) (n := 4) (by decide) (by decide) ?_
  refine lv_dup hx hb dX6_init_8 rfl ?_
  have hM5 := k4_init l hl9 dC dI z a1 H2.size
  obtain ⟨hF3, hC6⟩ := pc_M hM5 hP hD hK hS hX hT hA [1] [] rfl rfl rfl
  refine va_callv (va_runIN (As := []) (rest := [.ref a1, .ref h0]) ⟨hx, hb, hml, hown, hts⟩ hM5 ⟨va_cnB 0 hts (gIL q_32) rfl rfl rfl hT.2.2.2.2.2.1 (hts _ q_8) hS_X0_init ⟨Nat.le_of_ble_eq_true rfl, Nat.le_of_ble_eq_true rfl⟩, rfl, (hts _ q_33)⟩ ⟨pc_blind, fun U hU hW => ⟨rfl, hC6 U hU hW⟩⟩ rfl rfl hl.1 rfl (lv_room (Nat.le_of_ble_eq_true rfl)) dX6_init_9 ⟨(Nat.le_of_ble_eq_true rfl), (Nat.le_of_ble_eq_true rfl)⟩) hS (fun q9 _ h9 => hF3 q9 h9) hF3 (fun u7 t7 H7 L7 ht7 hvm7 hw7 hB7 hz7 hk7 hS => ?_)
  obtain ⟨a9, a10, a11, a12, hB7⟩ := hB7
  obtain ⟨hP, hD, hK⟩ := pq_jn (wz := [(h0, ce0), (a1, ce7 a9 a10 a11 a12), (a9, ce3 z.1), (a10, ce3 z.1), (a11, ce3 z.1), (a12, ce3 z.1)]) (tz := []) hP hD hK [1] [] rfl hk7 hF3 hB7.1 ht7 hvm7 rfl rfl
  have hG : s.heap.size + 5 ≤ H7.size := va_gr (g := 1) (g1 := 4) hG (by rw [← ht7]; exact hB7.2)
  refine W.widen (k := 5) (n := 16) (by decide) (by decide) ?_
  refine va_putF (D := (dC, dI)) (ci := 6) (v := .ref a1) (ty := .object "Deltacycle$Circuit") (C := RX6) (T := TX6) (N := 3) hx hb hts in_X6 tyX6 tyX6_ok nmX6 hown hK hP hD (va_Sre hS) 0 rfl rfl 0 (by decide) (hts _ q_34) (fun _ h9 => h9) rfl hin rfl (by decide +kernel) rfl rfl (Nat.le_of_ble_eq_true rfl) dX6_init_12 (fun H13 _ hP hD hS' => ?_)
  have hG : s.heap.size + 5 ≤ H13.size := Nat.le_trans hG hS'.1
  have hS := va_Str hS hS'
  have hP : va_P (dC, dI) xCl [(h0, ce8 a1), (a1, ce7 a9 a10 a11 a12), (a9, ce3 z.1), (a10, ce3 z.1), (a11, ce3 z.1), (a12, ce3 z.1)] H13 := hP
  have hD := vd_as hP hD rfl
  refine lv_aload_n hx hb dX6_init_15 rfl (lv_at hl 0 rfl) ?_
  refine xa_new (ci := 5) (fs := [.null, .int 0]) (C := RX5) (T := TX5) (N := 2) hx hb hts in_X5 tyX5 tyX5_ok hown (hts _ q_35) (hts _ q_36) (hts _ q_37) hK hP hD hS hA rfl nf_X5 (Nat.le_of_ble_eq_true rfl) (Nat.le_of_ble_eq_true rfl) dX6_init_16 (fun a14 H15 hg8 hP hD hS => ?_)
  have hG : s.heap.size + 6 ≤ H15.size := by rw [hg8]; exact Nat.succ_le_succ hG
  have hP : va_P (dC, dI) xCl [(h0, ce8 a1), (a1, ce7 a9 a10 a11 a12), (a9, ce3 z.1), (a10, ce3 z.1), (a11, ce3 z.1), (a12, ce3 z.1), (a14, ce9)] H15 := hP
  have hD := vd_as hP hD rfl
  refine W.widen (k := 6) (n := 18) (by decide) (by decide) ?_
  refine lv_dup hx hb dX6_init_19 rfl ?_
  refine lv_aload_n hx hb dX6_init_20 rfl (lv_at hl 0 rfl) ?_
  refine va_get (D := (dC, dI)) (ci := 6) (v := .ref a1) (C := RX6) (T := TX6) (N := 3) hx hb hts in_X6 hown hK hP 0 rfl rfl 0 (by decide) (hts _ q_34) (fun _ h9 => h9) rfl dX6_init_21 ?_
  have hM18 := k5_init l hl9 dC dI z a14 a1 H15.size
  obtain ⟨hF16, hC19⟩ := pc_M hM18 hP hD hK hS hX hT hA [6] [] rfl rfl rfl
  refine va_callv (va_runI (As := [.ref a1]) (rest := [.ref a14, .ref h0]) ⟨hx, hb, hml, hown, hts⟩ hM18 (cwI 1 hts (gIL q_40) rfl rfl rfl (hts _ q_37) (hts _ q_41) (hts _ q_42) rfl hS_X5_init ⟨Nat.le_of_ble_eq_true rfl, Nat.le_of_ble_eq_true rfl⟩) ⟨pc_blind, fun U hU hW => ⟨rfl, hC19 U hU hW⟩⟩ rfl rfl hl.1 rfl (lv_room (Nat.le_of_ble_eq_true rfl)) dX6_init_24 ⟨(Nat.le_of_ble_eq_true rfl), (Nat.le_of_ble_eq_true rfl)⟩) hS (fun q9 _ h9 => hF16 q9 h9) hF16 (fun u20 t20 H20 L20 ht20 hvm20 hw20 hB20 hz20 hk20 hS => ?_)
  obtain ⟨hP, hD, hK⟩ := pq_jn (wz := [(h0, ce8 a1), (a1, ce7 a9 a10 a11 a12), (a9, ce3 z.1), (a10, ce3 z.1), (a11, ce3 z.1), (a12, ce3 z.1), (a14, ce10 a1)]) (tz := []) hP hD hK [6] [] rfl hk20 hF16 hB20.1 ht20 hvm20 rfl rfl
  have hG : s.heap.size + 6 ≤ H20.size := Nat.le_trans hG hz20
  refine va_putF (D := (dC, dI)) (ci := 6) (v := .ref a14) (ty := .object "Deltacycle$Simulation") (C := RX6) (T := TX6) (N := 3) hx hb hts in_X6 tyX6 tyX6_ok nmX6 hown hK hP hD (va_Sre hS) 0 rfl rfl 1 (by decide) (hts _ q_43) (fun _ h9 => h9) rfl hin rfl (by decide +kernel) rfl rfl (Nat.le_of_ble_eq_true rfl) dX6_init_27 (fun H22 _ hP hD hS' => ?_)
  have hG : s.heap.size + 6 ≤ H22.size := Nat.le_trans hG hS'.1
  have hS := va_Str hS hS'
  have hP : va_P (dC, dI) xCl [(h0, ce11 a1 a14), (a1, ce7 a9 a10 a11 a12), (a9, ce3 z.1), (a10, ce3 z.1), (a11, ce3 z.1), (a12, ce3 z.1), (a14, ce10 a1)] H22 := hP
  have hD := vd_as hP hD rfl
  refine lv_aload_n hx hb dX6_init_30 rfl (lv_at hl 0 rfl) ?_
  refine xa_new (ci := 4) (fs := [.null, .null, .int 0]) (C := RX4) (T := TX4) (N := 3) hx hb hts in_X4 tyX4 tyX4_ok hown (hts _ q_44) (hts _ q_45) (hts _ q_46) hK hP hD hS hA rfl nf_X4 (Nat.le_of_ble_eq_true rfl) (Nat.le_of_ble_eq_true rfl) dX6_init_31 (fun a23 H24 hg8 hP hD hS => ?_)
  have hG : s.heap.size + 7 ≤ H24.size := by rw [hg8]; exact Nat.succ_le_succ hG
  have hP : va_P (dC, dI) xCl [(h0, ce11 a1 a14), (a1, ce7 a9 a10 a11 a12), (a9, ce3 z.1), (a10, ce3 z.1), (a11, ce3 z.1), (a12, ce3 z.1), (a14, ce10 a1), (a23, ce12)] H24 := hP
  have hD := vd_as hP hD rfl
  refine W.widen (k := 7) (n := 21) (by decide) (by decide) ?_
  refine lv_dup hx hb dX6_init_34 rfl ?_
  refine lv_aload_n hx hb dX6_init_35 rfl (lv_at hl 0 rfl) ?_
  refine va_get (D := (dC, dI)) (ci := 6) (v := .ref a1) (C := RX6) (T := TX6) (N := 3) hx hb hts in_X6 hown hK hP 0 rfl rfl 0 (by decide) (hts _ q_34) (fun _ h9 => h9) rfl dX6_init_36 ?_
  have hM27 := k6_init l hl9 dC dI z a23 a1 H24.size
  obtain ⟨hF25, hC28⟩ := pc_M hM27 hP hD hK hS hX hT hA [7] [] rfl rfl rfl
  refine va_callv (va_runI (As := [.ref a1]) (rest := [.ref a23, .ref h0]) ⟨hx, hb, hml, hown, hts⟩ hM27 (cwI 1 hts (gIL q_51) rfl rfl rfl (hts _ q_46) (hts _ q_52) (hts _ q_53) rfl hS_X4_init ⟨Nat.le_of_ble_eq_true rfl, Nat.le_of_ble_eq_true rfl⟩) ⟨pc_blind, fun U hU hW => ⟨rfl, hC28 U hU hW⟩⟩ rfl rfl hl.1 rfl (lv_room (Nat.le_of_ble_eq_true rfl)) dX6_init_39 ⟨(Nat.le_of_ble_eq_true rfl), (Nat.le_of_ble_eq_true rfl)⟩) hS (fun q9 _ h9 => hF25 q9 h9) hF25 (fun u29 t29 H29 L29 ht29 hvm29 hw29 hB29 hz29 hk29 hS => ?_)
  obtain ⟨a31, k32, hB29⟩ := hB29
  obtain ⟨hP, hD, hK⟩ := pq_jn (wz := [(h0, ce11 a1 a14), (a1, ce7 a9 a10 a11 a12), (a9, ce3 z.1), (a10, ce3 z.1), (a11, ce3 z.1), (a12, ce3 z.1), (a14, ce10 a1), (a23, ce15 a1 a31), (a31, ce13 k32)]) (tz := [(k32, .int)]) hP hD hK [7] [] rfl hk29 hF25 hB29.1 ht29 hvm29 rfl rfl
  have hG : s.heap.size + 8 ≤ H29.size := va_gr (g := 7) (g1 := 1) hG (by rw [← ht29]; exact hB29.2)
  refine W.widen (k := 8) (n := 29) (by decide) (by decide) ?_
  refine va_putF (D := (dC, dI)) (ci := 6) (v := .ref a23) (ty := .object "Deltacycle$Rows") (C := RX6) (T := TX6) (N := 3) hx hb hts in_X6 tyX6 tyX6_ok nmX6 hown hK hP hD (va_Sre hS) 0 rfl rfl 2 (by decide) (hts _ q_54) (fun _ h9 => h9) rfl hin rfl (by decide +kernel) rfl rfl (Nat.le_of_ble_eq_true rfl) dX6_init_42 (fun H33 _ hP hD hS' => ?_)
  have hG : s.heap.size + 8 ≤ H33.size := Nat.le_trans hG hS'.1
  have hS := va_Str hS hS'
  have hP : va_P (dC, dI) xCl [(h0, ce16 a1 a14 a23), (a1, ce7 a9 a10 a11 a12), (a9, ce3 z.1), (a10, ce3 z.1), (a11, ce3 z.1), (a12, ce3 z.1), (a14, ce10 a1), (a23, ce15 a1 a31), (a31, ce13 k32)] H33 := hP
  have hD := vd_as hP hD rfl
  exact W.vret hx hb hr (fun t9 ht9 hW9 => ⟨⟨(), rfl, trivial, ⟨a1, a14, a23, a9, a10, a11, a12, a31, k32, ⟨pq_mk2 hP hD hK [0, 1, 6, 7, 2, 3, 4, 5, 8] [0] rfl rfl rfl ht9 hW9, by rw [ht9]; exact Nat.le_trans (Nat.add_le_add_left (Nat.le_of_ble_eq_true rfl) _) hG⟩⟩⟩, hS.F ht9⟩) hS.2.2 dX6_init_45

set_option maxHeartbeats 4000000 in
set_option maxRecDepth 100000 in
theorem k8_init (l : Launch) (hl9 : l.stackTraces = false) (dC : Nat → ClassId) (dI : Nat → Nat → Nat) (z : XZ) (h0 : Nat) (sz : Nat) : Met l yX9_init (.code yX9_init cX9_init 1 none :: wsL_law) ({ frames := 4, cells := 4, slots := 12, locals := 76 }) (va_Pc [.ref h0] (PC (dC, dI) [(h0, ce17)] [] sz z)) (va_Qv (fun (_ : Unit) => True) (fun (_ : Unit) (t : State) => ∃ (n0 n1 n2 n3 : Nat), PG (dC, dI) [(h0, ce21 n0 n1 n2 n3), (n0, ce3 z.1), (n1, ce3 z.1), (n2, ce3 z.1), (n3, ce3 z.1)] [] (va_A [(h0, ce17)] sz) sz 4 t) (va_A [(h0, ce17)] sz)) 4 12 (va_A [(h0, ce17)] sz) := by
  refine Met.ofW (cc := cX9_init) (maxL := 1) (ret := none) (by decide) rfl ?_
  intro p e s m args below meth c s₁ B hml hv
  obtain ⟨rfl, hsz, hP, hK, hD0, hX, hT⟩ := hv
  have hx := B.exec
  have hb := B.bytes
  have hr := B.returns
  have hts0 := atoms_spec (ws := .code yX9_init cX9_init 1 none :: wsL_law) B.pre
  have hts := xTail hts0
  have hown : s.vm.findClass RX9 = some m.cls := xown B.named rfl
  have hlocks := B.notSynchronized
  have hin : meth.name = "<init>" := (name_of_methodNamed B.named B.method).1
  subst hsz
  have hD := hD0.self (sz := s.heap.size)
  generalize hAe : va_A [(h0, ce17)] s.heap.size = A at hD hX ⊢
  have hA : ∀ q : Nat, s.heap.size ≤ q → A q := fun q h => by rw [← hAe]; exact Or.inr h
  have hS : va_S A s.heap s.heap [] := va_S.rf
  have hG : s.heap.size + 0 ≤ s.heap.size := Nat.le_refl _
  have hl := lv_entry ([.ref h0]) (n := 1) (Nat.le_of_ble_eq_true rfl)
  rw [lg_entry_eq]
  generalize (lg_sl ([.ref h0]) ++ List.replicate (1 - (lg_sl ([.ref h0])).length) Slot.unset).toArray = ls at hl ⊢
  have hl : lv_has ls 1 [(0, .ref h0)] := hl
  refine lv_aload_n hx hb dX9_init_0 rfl (lv_at hl 0 rfl) ?_
  refine W.objInit hx hb hown (hts _ q_61) (hts _ q_4) (hts _ q_5) rfl (by rw [hml]; exact hl.1) rfl dX9_init_1 (Nat.le_of_ble_eq_true rfl) (Nat.le_of_ble_eq_true rfl) ?_
  refine W.eq (g2 := F0 m 4 ls []) rfl ?_
  refine lv_aload_n hx hb dX9_init_4 rfl (lv_at hl 0 rfl) ?_
  refine xa_new (ci := 0) (fs := [.int 0, .null, .int 0]) (C := RJx4a65c) (T := TJx4a65c) (N := 3) hx hb hts in_Jx4a65c tyJx4a65c tyJx4a65c_ok hown (hts _ q_62) (hts _ q_11) (hts _ q_12) hK hP hD hS hA rfl nf_Jx4a65c (Nat.le_of_ble_eq_true rfl) (Nat.le_of_ble_eq_true rfl) dX9_init_5 (fun a1 H2 hg8 hP hD hS => ?_)
  have hG : s.heap.size + 1 ≤ H2.size := by rw [hg8]; exact Nat.succ_le_succ hG
  have hP : va_P (dC, dI) xCl [(h0, ce17), (a1, ce2)] H2 := hP
  have hD := vd_as hP hD rfl
  refine W.widen (k := 1) (n := 3) (by decide) (by decide) ?_
  refine lv_dup hx hb dX9_init_8 rfl ?_
  have hM5 := k3_init l hl9 dC dI z a1 H2.size
  obtain ⟨hF3, hC6⟩ := pc_M hM5 hP hD hK hS hX hT hA [1] [] rfl rfl rfl
  refine va_callv (va_runI (As := []) (rest := [.ref a1, .ref h0]) ⟨hx, hb, hml, hown, hts⟩ hM5 (cwI 0 hts (gIL q_25) rfl rfl rfl (hts _ q_12) (hts _ q_63) (hts _ q_27) rfl hS_Jx4a65c_init_da8c8 ⟨Nat.le_of_ble_eq_true rfl, Nat.le_of_ble_eq_true rfl⟩) ⟨pc_blind, fun U hU hW => ⟨rfl, hC6 U hU hW⟩⟩ rfl rfl hl.1 rfl (lv_room (Nat.le_of_ble_eq_true rfl)) dX9_init_9 ⟨(Nat.le_of_ble_eq_true rfl), (Nat.le_of_ble_eq_true rfl)⟩) hS (fun q9 _ h9 => hF3 q9 h9) hF3 (fun u7 t7 H7 L7 ht7 hvm7 hw7 hB7 hz7 hk7 hS => ?_)
  obtain ⟨hP, hD, hK⟩ := pq_jn (wz := [(h0, ce17), (a1, ce3 z.1)]) (tz := []) hP hD hK [1] [] rfl hk7 hF3 hB7.1 ht7 hvm7 rfl rfl
  have hG : s.heap.size + 1 ≤ H7.size := Nat.le_trans hG hz7
  refine va_putF (D := (dC, dI)) (ci := 8) (v := .ref a1) (ty := .object "java/util/ArrayList") (C := RX9) (T := TX9) (N := 6) hx hb hts in_X9 tyX9 tyX9_ok nmX9 hown hK hP hD (va_Sre hS) 0 rfl rfl 1 (by decide) (hts _ q_64) (fun _ h9 => h9) rfl hin rfl (by decide +kernel) rfl rfl (Nat.le_of_ble_eq_true rfl) dX9_init_12 (fun H9 _ hP hD hS' => ?_)
  have hG : s.heap.size + 1 ≤ H9.size := Nat.le_trans hG hS'.1
  have hS := va_Str hS hS'
  have hP : va_P (dC, dI) xCl [(h0, ce18 a1), (a1, ce3 z.1)] H9 := hP
  have hD := vd_as hP hD rfl
  refine lv_aload_n hx hb dX9_init_15 rfl (lv_at hl 0 rfl) ?_
  refine xa_new (ci := 0) (fs := [.int 0, .null, .int 0]) (C := RJx4a65c) (T := TJx4a65c) (N := 3) hx hb hts in_Jx4a65c tyJx4a65c tyJx4a65c_ok hown (hts _ q_62) (hts _ q_11) (hts _ q_12) hK hP hD hS hA rfl nf_Jx4a65c (Nat.le_of_ble_eq_true rfl) (Nat.le_of_ble_eq_true rfl) dX9_init_16 (fun a10 H11 hg8 hP hD hS => ?_)
  have hG : s.heap.size + 2 ≤ H11.size := by rw [hg8]; exact Nat.succ_le_succ hG
  have hP : va_P (dC, dI) xCl [(h0, ce18 a1), (a1, ce3 z.1), (a10, ce2)] H11 := hP
  have hD := vd_as hP hD rfl
  refine W.widen (k := 2) (n := 6) (by decide) (by decide) ?_
  refine lv_dup hx hb dX9_init_19 rfl ?_
  have hM14 := k3_init l hl9 dC dI z a10 H11.size
  obtain ⟨hF12, hC15⟩ := pc_M hM14 hP hD hK hS hX hT hA [2] [] rfl rfl rfl
  refine va_callv (va_runI (As := []) (rest := [.ref a10, .ref h0]) ⟨hx, hb, hml, hown, hts⟩ hM14 (cwI 0 hts (gIL q_25) rfl rfl rfl (hts _ q_12) (hts _ q_63) (hts _ q_27) rfl hS_Jx4a65c_init_da8c8 ⟨Nat.le_of_ble_eq_true rfl, Nat.le_of_ble_eq_true rfl⟩) ⟨pc_blind, fun U hU hW => ⟨rfl, hC15 U hU hW⟩⟩ rfl rfl hl.1 rfl (lv_room (Nat.le_of_ble_eq_true rfl)) dX9_init_20 ⟨(Nat.le_of_ble_eq_true rfl), (Nat.le_of_ble_eq_true rfl)⟩) hS (fun q9 _ h9 => hF12 q9 h9) hF12 (fun u16 t16 H16 L16 ht16 hvm16 hw16 hB16 hz16 hk16 hS => ?_)
  obtain ⟨hP, hD, hK⟩ := pq_jn (wz := [(h0, ce18 a1), (a1, ce3 z.1), (a10, ce3 z.1)]) (tz := []) hP hD hK [2] [] rfl hk16 hF12 hB16.1 ht16 hvm16 rfl rfl
  have hG : s.heap.size + 2 ≤ H16.size := Nat.le_trans hG hz16
  refine va_putF (D := (dC, dI)) (ci := 8) (v := .ref a10) (ty := .object "java/util/ArrayList") (C := RX9) (T := TX9) (N := 6) hx hb hts in_X9 tyX9 tyX9_ok nmX9 hown hK hP hD (va_Sre hS) 0 rfl rfl 2 (by decide) (hts _ q_65) (fun _ h9 => h9) rfl hin rfl (by decide +kernel) rfl rfl (Nat.le_of_ble_eq_true rfl) dX9_init_23 (fun H18 _ hP hD hS' => ?_)
  have hG : s.heap.size + 2 ≤ H18.size := Nat.le_trans hG hS'.1
  have hS := va_Str hS hS'
  have hP : va_P (dC, dI) xCl [(h0, ce19 a1 a10), (a1, ce3 z.1), (a10, ce3 z.1)] H18 := hP
  have hD := vd_as hP hD rfl
  refine lv_aload_n hx hb dX9_init_26 rfl (lv_at hl 0 rfl) ?_
  refine xa_new (ci := 0) (fs := [.int 0, .null, .int 0]) (C := RJx4a65c) (T := TJx4a65c) (N := 3) hx hb hts in_Jx4a65c tyJx4a65c tyJx4a65c_ok hown (hts _ q_62) (hts _ q_11) (hts _ q_12) hK hP hD hS hA rfl nf_Jx4a65c (Nat.le_of_ble_eq_true rfl) (Nat.le_of_ble_eq_true rfl) dX9_init_27 (fun a19 H20 hg8 hP hD hS => ?_)
  have hG : s.heap.size + 3 ≤ H20.size := by rw [hg8]; exact Nat.succ_le_succ hG
  have hP : va_P (dC, dI) xCl [(h0, ce19 a1 a10), (a1, ce3 z.1), (a10, ce3 z.1), (a19, ce2)] H20 := hP
  have hD := vd_as hP hD rfl
  refine W.widen (k := 3) (n := 9) (by decide) (by decide) ?_
  refine lv_dup hx hb dX9_init_30 rfl ?_
  have hM23 := k3_init l hl9 dC dI z a19 H20.size
  obtain ⟨hF21, hC24⟩ := pc_M hM23 hP hD hK hS hX hT hA [3] [] rfl rfl rfl
  refine va_callv (va_runI (As := []) (rest := [.ref a19, .ref h0]) ⟨hx, hb, hml, hown, hts⟩ hM23 (cwI 0 hts (gIL q_25) rfl rfl rfl (hts _ q_12) (hts _ q_63) (hts _ q_27) rfl hS_Jx4a65c_init_da8c8 ⟨Nat.le_of_ble_eq_true rfl, Nat.le_of_ble_eq_true rfl⟩) ⟨pc_blind, fun U hU hW => ⟨rfl, hC24 U hU hW⟩⟩ rfl rfl hl.1 rfl (lv_room (Nat.le_of_ble_eq_true rfl)) dX9_init_31 ⟨(Nat.le_of_ble_eq_true rfl), (Nat.le_of_ble_eq_true rfl)⟩) hS (fun q9 _ h9 => hF21 q9 h9) hF21 (fun u25 t25 H25 L25 ht25 hvm25 hw25 hB25 hz25 hk25 hS => ?_)
  obtain ⟨hP, hD, hK⟩ := pq_jn (wz := [(h0, ce19 a1 a10), (a1, ce3 z.1), (a10, ce3 z.1), (a19, ce3 z.1)]) (tz := []) hP hD hK [3] [] rfl hk25 hF21 hB25.1 ht25 hvm25 rfl rfl
  have hG : s.heap.size + 3 ≤ H25.size := Nat.le_trans hG hz25
  refine va_putF (D := (dC, dI)) (ci := 8) (v := .ref a19) (ty := .object "java/util/ArrayList") (C := RX9) (T := TX9) (N := 6) hx hb hts in_X9 tyX9 tyX9_ok nmX9 hown hK hP hD (va_Sre hS) 0 rfl rfl 3 (by decide) (hts _ q_66) (fun _ h9 => h9) rfl hin rfl (by decide +kernel) rfl rfl (Nat.le_of_ble_eq_true rfl) dX9_init_34 (fun H27 _ hP hD hS' => ?_)
  have hG : s.heap.size + 3 ≤ H27.size := Nat.le_trans hG hS'.1
  have hS := va_Str hS hS'
  have hP : va_P (dC, dI) xCl [(h0, ce20 a1 a10 a19), (a1, ce3 z.1), (a10, ce3 z.1), (a19, ce3 z.1)] H27 := hP
  have hD := vd_as hP hD rfl
  refine lv_aload_n hx hb dX9_init_37 rfl (lv_at hl 0 rfl) ?_
  refine xa_new (ci := 0) (fs := [.int 0, .null, .int 0]) (C := RJx4a65c) (T := TJx4a65c) (N := 3) hx hb hts in_Jx4a65c tyJx4a65c tyJx4a65c_ok hown (hts _ q_62) (hts _ q_11) (hts _ q_12) hK hP hD hS hA rfl nf_Jx4a65c (Nat.le_of_ble_eq_true rfl) (Nat.le_of_ble_eq_true rfl) dX9_init_38 (fun a28 H29 hg8 hP hD hS => ?_)
  have hG : s.heap.size + 4 ≤ H29.size := by rw [hg8]; exact Nat.succ_le_succ hG
  have hP : va_P (dC, dI) xCl [(h0, ce20 a1 a10 a19), (a1, ce3 z.1), (a10, ce3 z.1), (a19, ce3 z.1), (a28, ce2)] H29 := hP
  have hD := vd_as hP hD rfl
  refine W.widen (k := 4) (n := 12) (by decide) (by decide) ?_
  refine lv_dup hx hb dX9_init_41 rfl ?_
  have hM32 := k3_init l hl9 dC dI z a28 H29.size
  obtain ⟨hF30, hC33⟩ := pc_M hM32 hP hD hK hS hX hT hA [4] [] rfl rfl rfl
  refine va_callv (va_runI (As := []) (rest := [.ref a28, .ref h0]) ⟨hx, hb, hml, hown, hts⟩ hM32 (cwI 0 hts (gIL q_25) rfl rfl rfl (hts _ q_12) (hts _ q_63) (hts _ q_27) rfl hS_Jx4a65c_init_da8c8 ⟨Nat.le_of_ble_eq_true rfl, Nat.le_of_ble_eq_true rfl⟩) ⟨pc_blind, fun U hU hW => ⟨rfl, hC33 U hU hW⟩⟩ rfl rfl hl.1 rfl (lv_room (Nat.le_of_ble_eq_true rfl)) dX9_init_42 ⟨(Nat.le_of_ble_eq_true rfl), (Nat.le_of_ble_eq_true rfl)⟩) hS (fun q9 _ h9 => hF30 q9 h9) hF30 (fun u34 t34 H34 L34 ht34 hvm34 hw34 hB34 hz34 hk34 hS => ?_)
  obtain ⟨hP, hD, hK⟩ := pq_jn (wz := [(h0, ce20 a1 a10 a19), (a1, ce3 z.1), (a10, ce3 z.1), (a19, ce3 z.1), (a28, ce3 z.1)]) (tz := []) hP hD hK [4] [] rfl hk34 hF30 hB34.1 ht34 hvm34 rfl rfl
  have hG : s.heap.size + 4 ≤ H34.size := Nat.le_trans hG hz34
  refine va_putF (D := (dC, dI)) (ci := 8) (v := .ref a28) (ty := .object "java/util/ArrayList") (C := RX9) (T := TX9) (N := 6) hx hb hts in_X9 tyX9 tyX9_ok nmX9 hown hK hP hD (va_Sre hS) 0 rfl rfl 4 (by decide) (hts _ q_67) (fun _ h9 => h9) rfl hin rfl (by decide +kernel) rfl rfl (Nat.le_of_ble_eq_true rfl) dX9_init_45 (fun H36 _ hP hD hS' => ?_)
  have hG : s.heap.size + 4 ≤ H36.size := Nat.le_trans hG hS'.1
  have hS := va_Str hS hS'
  have hP : va_P (dC, dI) xCl [(h0, ce21 a1 a10 a19 a28), (a1, ce3 z.1), (a10, ce3 z.1), (a19, ce3 z.1), (a28, ce3 z.1)] H36 := hP
  have hD := vd_as hP hD rfl
  exact W.vret hx hb hr (fun t9 ht9 hW9 => ⟨⟨(), rfl, trivial, ⟨a1, a10, a19, a28, ⟨pq_mk2 hP hD hK [0, 1, 2, 3, 4] [] rfl rfl rfl ht9 hW9, by rw [ht9]; exact Nat.le_trans (Nat.add_le_add_left (Nat.le_of_ble_eq_true rfl) _) hG⟩⟩⟩, hS.F ht9⟩) hS.2.2 dX9_init_48

set_option maxHeartbeats 4000000 in
set_option maxRecDepth 100000 in
theorem k9_size (l : Launch) (hl9 : l.stackTraces = false) (dC : Nat → ClassId) (dI : Nat → Nat → Nat) (z : XZ) (h0 : Nat) (sz : Nat) (p0 p1 : Int32) : Met l yJx4a65c_size_8abf5 (.code yJx4a65c_size_8abf5 cJx4a65c_size_8abf5 1 (some .int) :: wsL_law) ({ frames := 0, cells := 0, slots := 0, locals := 0 }) (va_Pc [.ref h0] (PC (dC, dI) [(h0, ce24 p0 z.1 p1)] [] sz z)) (va_Qi (fun (r : Int32) (_ : Unit) => r = p1) (fun (_ : Unit) (t : State) => PG (dC, dI) [(h0, ce24 p0 z.1 p1)] [] (va_A [(h0, ce24 p0 z.1 p1)] sz) sz 0 t) (va_A [(h0, ce24 p0 z.1 p1)] sz)) 0 0 (va_A [(h0, ce24 p0 z.1 p1)] sz) := by
  refine Met.ofW (cc := cJx4a65c_size_8abf5) (maxL := 1) (ret := (some .int)) (by decide) rfl ?_
  intro p e s m args below meth c s₁ B hml hv
  obtain ⟨rfl, hsz, hP, hK, hD0, hX, hT⟩ := hv
  have hx := B.exec
  have hb := B.bytes
  have hr := B.returns
  have hts0 := atoms_spec (ws := .code yJx4a65c_size_8abf5 cJx4a65c_size_8abf5 1 (some .int) :: wsL_law) B.pre
  have hts := xTail hts0
  have hown : s.vm.findClass RJx4a65c = some m.cls := xown B.named rfl
  have hlocks := B.notSynchronized
  subst hsz
  have hD := hD0.self (sz := s.heap.size)
  generalize hAe : va_A [(h0, ce24 p0 z.1 p1)] s.heap.size = A at hD hX ⊢
  have hA : ∀ q : Nat, s.heap.size ≤ q → A q := fun q h => by rw [← hAe]; exact Or.inr h
  have hS : va_S A s.heap s.heap [] := va_S.rf
  have hG : s.heap.size + 0 ≤ s.heap.size := Nat.le_refl _
  have hl := lv_entry ([.ref h0]) (n := 1) (Nat.le_of_ble_eq_true rfl)
  rw [lg_entry_eq]
  generalize (lg_sl ([.ref h0]) ++ List.replicate (1 - (lg_sl ([.ref h0])).length) Slot.unset).toArray = ls at hl ⊢
  have hl : lv_has ls 1 [(0, .ref h0)] := hl
  refine lv_aload_n hx hb dJx4a65c_size_8abf5_0 rfl (lv_at hl 0 rfl) ?_
  refine va_get (D := (dC, dI)) (ci := 0) (v := .int p1) (C := RJx4a65c) (T := TJx4a65c) (N := 3) hx hb hts in_Jx4a65c hown hK hP 0 rfl rfl 2 (by decide) (hts _ q_74) (fun _ h9 => h9) rfl dJx4a65c_size_8abf5_1 ?_
  exact W.iret (v := p1) hx hb hr (fun t9 ht9 hW9 => ⟨⟨p1, (), rfl, rfl, ⟨pq_mk2 hP hD hK [0] [] rfl rfl rfl ht9 hW9, by rw [ht9]; exact Nat.le_trans (Nat.add_le_add_left (Nat.le_of_ble_eq_true rfl) _) hG⟩⟩, hS.F ht9⟩) hS.2.2 dJx4a65c_size_8abf5_4

set_option maxHeartbeats 4000000 in
set_option maxRecDepth 100000 in
theorem k10_requireRoomForSource (l : Launch) (hl9 : l.stackTraces = false) (dC : Nat → ClassId) (dI : Nat → Nat → Nat) (z : XZ) (h0 h1 h2 : Nat) (o0 o1 o2 o3 o4 : Nat) (sz : Nat) : Met l yX6_requireRoomForSource (.code yX6_requireRoomForSource cX6_requireRoomForSource 1 none :: wsL_law) ({ frames := 1, cells := 0, slots := 0, locals := 20 }) (va_Pc [.ref h0] (PC (dC, dI) [(h0, ce16 h1 o0 o1), (h1, ce7 o2 h2 o3 o4), (h2, ce3 z.1)] [] sz z)) (va_Qv (fun (_ : Unit) => True) (fun (_ : Unit) (t : State) => PG (dC, dI) [(h0, ce16 h1 o0 o1), (h1, ce7 o2 h2 o3 o4), (h2, ce3 z.1)] [] (va_A [(h0, ce16 h1 o0 o1), (h1, ce7 o2 h2 o3 o4), (h2, ce3 z.1)] sz) sz 0 t) (va_A [(h0, ce16 h1 o0 o1), (h1, ce7 o2 h2 o3 o4), (h2, ce3 z.1)] sz)) 0 0 (va_A [(h0, ce16 h1 o0 o1), (h1, ce7 o2 h2 o3 o4), (h2, ce3 z.1)] sz) := by
  refine Met.ofW (cc := cX6_requireRoomForSource) (maxL := 1) (ret := none) (by decide) rfl ?_
  intro p e s m args below meth c s₁ B hml hv
  obtain ⟨rfl, hsz, hP, hK, hD0, hX, hT⟩ := hv
  have hx := B.exec
  have hb := B.bytes
  have hr := B.returns
  have hts0 := atoms_spec (ws := .code yX6_requireRoomForSource cX6_requireRoomForSource 1 none :: wsL_law) B.pre
  have hts := xTail hts0
  have hown : s.vm.findClass RX6 = some m.cls := xown B.named rfl
  have hlocks := B.notSynchronized
  subst hsz
  have hD := hD0.self (sz := s.heap.size)
  generalize hAe : va_A [(h0, ce16 h1 o0 o1), (h1, ce7 o2 h2 o3 o4), (h2, ce3 z.1)] s.heap.size = A at hD hX ⊢
  have hA : ∀ q : Nat, s.heap.size ≤ q → A q := fun q h => by rw [← hAe]; exact Or.inr h
  have hS : va_S A s.heap s.heap [] := va_S.rf
  have hG : s.heap.size + 0 ≤ s.heap.size := Nat.le_refl _
  have hl := lv_entry ([.ref h0]) (n := 1) (Nat.le_of_ble_eq_true rfl)
  rw [lg_entry_eq]
  generalize (lg_sl ([.ref h0]) ++ List.replicate (1 - (lg_sl ([.ref h0])).length) Slot.unset).toArray = ls at hl ⊢
  have hl : lv_has ls 1 [(0, .ref h0)] := hl
  refine lv_aload_n hx hb dX6_requireRoomForSource_0 rfl (lv_at hl 0 rfl) ?_
  refine va_get (D := (dC, dI)) (ci := 6) (v := .ref h1) (C := RX6) (T := TX6) (N := 3) hx hb hts in_X6 hown hK hP 0 rfl rfl 0 (by decide) (hts _ q_34) (fun _ h9 => h9) rfl dX6_requireRoomForSource_1 ?_
  refine va_get (D := (dC, dI)) (ci := 2) (v := .ref h2) (C := RX0) (T := TX0) (N := 4) hx hb hts in_X0 hown hK hP 1 rfl rfl 1 (by decide) (hts _ q_73) (fun _ h9 => h9) rfl dX6_requireRoomForSource_4 ?_
  have hM3 := k9_size l hl9 dC dI z h2 s.heap.size 0 0
  obtain ⟨hF1, hC4⟩ := pc_M hM3 hP hD hK hS hX hT hA [2] [] rfl rfl rfl
  refine va_calli (va_runV (As := []) (rest := []) ⟨hx, hb, hml, hown, hts⟩ hM3 (cwV 0 hts (gV q_76 q_77 q_78 q_12 q_75) rfl rfl rfl hV_Jx4a65c_size_8abf5 ⟨Nat.le_of_ble_eq_true rfl, Nat.le_of_ble_eq_true rfl⟩) ⟨pc_blind, va_recv hK hP (ci := 0) (q := (RJx4a65c, TJx4a65c, 3)) (q0 := 2) rfl rfl, fun U hU hW => ⟨rfl, hC4 U hU hW⟩⟩ rfl rfl hl.1 rfl (lv_room (Nat.le_of_ble_eq_true rfl)) dX6_requireRoomForSource_7 ⟨(Nat.le_of_ble_eq_true rfl), (Nat.le_of_ble_eq_true rfl)⟩) hS (fun q9 _ h9 => hF1 q9 h9) hF1 (fun r6 u5 t5 H5 L5 ht5 hvm5 hw5 hB5 hz5 hk5 hS => ?_)
  have hP := pq_keep hP hD [2] rfl hk5 hB5.1 ht5
  have hG : s.heap.size + 0 ≤ H5.size := Nat.le_trans hG hz5
  refine W.eq (g2 := F0 m 10 ls [.int 0]) (by rw [hw5]) ?_
  refine lv_bipush (v := 8) hx hb dX6_requireRoomForSource_10 (by decide) ?_
  refine lv_icmp_lt (tgt := 26) hx hb dX6_requireRoomForSource_12 (by decide) (fun _ => ?_) (fun cz => absurd (by decide) cz)
  exact W.vret hx hb hr (fun t9 ht9 hW9 => ⟨⟨(), rfl, trivial, ⟨pq_mk2 hP hD hK [0, 1, 2] [] rfl rfl rfl ht9 hW9, by rw [ht9]; exact Nat.le_trans (Nat.add_le_add_left (Nat.le_of_ble_eq_true rfl) _) hG⟩⟩, hS.F ht9⟩) hS.2.2 dX6_requireRoomForSource_26

set_option maxHeartbeats 4000000 in
set_option maxRecDepth 100000 in
theorem k11_requireRoomForNet (l : Launch) (hl9 : l.stackTraces = false) (dC : Nat → ClassId) (dI : Nat → Nat → Nat) (z : XZ) (h0 h1 h2 : Nat) (o0 o1 o2 o3 o4 : Nat) (sz : Nat) : Met l yX6_requireRoomForNet (.code yX6_requireRoomForNet cX6_requireRoomForNet 1 none :: wsL_law) ({ frames := 1, cells := 0, slots := 0, locals := 20 }) (va_Pc [.ref h0] (PC (dC, dI) [(h0, ce16 h1 o0 o1), (h1, ce7 h2 o2 o3 o4), (h2, ce3 z.1)] [] sz z)) (va_Qv (fun (_ : Unit) => True) (fun (_ : Unit) (t : State) => PG (dC, dI) [(h0, ce16 h1 o0 o1), (h1, ce7 h2 o2 o3 o4), (h2, ce3 z.1)] [] (va_A [(h0, ce16 h1 o0 o1), (h1, ce7 h2 o2 o3 o4), (h2, ce3 z.1)] sz) sz 0 t) (va_A [(h0, ce16 h1 o0 o1), (h1, ce7 h2 o2 o3 o4), (h2, ce3 z.1)] sz)) 0 0 (va_A [(h0, ce16 h1 o0 o1), (h1, ce7 h2 o2 o3 o4), (h2, ce3 z.1)] sz) := by
  refine Met.ofW (cc := cX6_requireRoomForNet) (maxL := 1) (ret := none) (by decide) rfl ?_
  intro p e s m args below meth c s₁ B hml hv
  obtain ⟨rfl, hsz, hP, hK, hD0, hX, hT⟩ := hv
  have hx := B.exec
  have hb := B.bytes
  have hr := B.returns
  have hts0 := atoms_spec (ws := .code yX6_requireRoomForNet cX6_requireRoomForNet 1 none :: wsL_law) B.pre
  have hts := xTail hts0
  have hown : s.vm.findClass RX6 = some m.cls := xown B.named rfl
  have hlocks := B.notSynchronized
  subst hsz
  have hD := hD0.self (sz := s.heap.size)
  generalize hAe : va_A [(h0, ce16 h1 o0 o1), (h1, ce7 h2 o2 o3 o4), (h2, ce3 z.1)] s.heap.size = A at hD hX ⊢
  have hA : ∀ q : Nat, s.heap.size ≤ q → A q := fun q h => by rw [← hAe]; exact Or.inr h
  have hS : va_S A s.heap s.heap [] := va_S.rf
  have hG : s.heap.size + 0 ≤ s.heap.size := Nat.le_refl _
  have hl := lv_entry ([.ref h0]) (n := 1) (Nat.le_of_ble_eq_true rfl)
  rw [lg_entry_eq]
  generalize (lg_sl ([.ref h0]) ++ List.replicate (1 - (lg_sl ([.ref h0])).length) Slot.unset).toArray = ls at hl ⊢
  have hl : lv_has ls 1 [(0, .ref h0)] := hl
  refine lv_aload_n hx hb dX6_requireRoomForNet_0 rfl (lv_at hl 0 rfl) ?_
  refine va_get (D := (dC, dI)) (ci := 6) (v := .ref h1) (C := RX6) (T := TX6) (N := 3) hx hb hts in_X6 hown hK hP 0 rfl rfl 0 (by decide) (hts _ q_34) (fun _ h9 => h9) rfl dX6_requireRoomForNet_1 ?_
  refine va_get (D := (dC, dI)) (ci := 2) (v := .ref h2) (C := RX0) (T := TX0) (N := 4) hx hb hts in_X0 hown hK hP 1 rfl rfl 0 (by decide) (hts _ q_83) (fun _ h9 => h9) rfl dX6_requireRoomForNet_4 ?_
  have hM3 := k9_size l hl9 dC dI z h2 s.heap.size 0 0
  obtain ⟨hF1, hC4⟩ := pc_M hM3 hP hD hK hS hX hT hA [2] [] rfl rfl rfl
  refine va_calli (va_runV (As := []) (rest := []) ⟨hx, hb, hml, hown, hts⟩ hM3 (cwV 0 hts (gV q_76 q_77 q_78 q_12 q_75) rfl rfl rfl hV_Jx4a65c_size_8abf5 ⟨Nat.le_of_ble_eq_true rfl, Nat.le_of_ble_eq_true rfl⟩) ⟨pc_blind, va_recv hK hP (ci := 0) (q := (RJx4a65c, TJx4a65c, 3)) (q0 := 2) rfl rfl, fun U hU hW => ⟨rfl, hC4 U hU hW⟩⟩ rfl rfl hl.1 rfl (lv_room (Nat.le_of_ble_eq_true rfl)) dX6_requireRoomForNet_7 ⟨(Nat.le_of_ble_eq_true rfl), (Nat.le_of_ble_eq_true rfl)⟩) hS (fun q9 _ h9 => hF1 q9 h9) hF1 (fun r6 u5 t5 H5 L5 ht5 hvm5 hw5 hB5 hz5 hk5 hS => ?_)
  have hP := pq_keep hP hD [2] rfl hk5 hB5.1 ht5
  have hG : s.heap.size + 0 ≤ H5.size := Nat.le_trans hG hz5
  refine W.eq (g2 := F0 m 10 ls [.int 0]) (by rw [hw5]) ?_
  refine lv_bipush (v := 40) hx hb dX6_requireRoomForNet_10 (by decide) ?_
  refine lv_icmp_lt (tgt := 26) hx hb dX6_requireRoomForNet_12 (by decide) (fun _ => ?_) (fun cz => absurd (by decide) cz)
  exact W.vret hx hb hr (fun t9 ht9 hW9 => ⟨⟨(), rfl, trivial, ⟨pq_mk2 hP hD hK [0, 1, 2] [] rfl rfl rfl ht9 hW9, by rw [ht9]; exact Nat.le_trans (Nat.add_le_add_left (Nat.le_of_ble_eq_true rfl) _) hG⟩⟩, hS.F ht9⟩) hS.2.2 dX6_requireRoomForNet_26

set_option maxHeartbeats 4000000 in
set_option maxRecDepth 100000 in
theorem k12_init (l : Launch) (hl9 : l.stackTraces = false) (dC : Nat → ClassId) (dI : Nat → Nat → Nat) (z : XZ) (h0 : Nat) (sz : Nat) : Met l yX2_init (.code yX2_init cX2_init 3 none :: wsL_law) ({ frames := 4, cells := 1, slots := 3, locals := 76 }) (va_Pc [.ref h0, .int 0, .ref (z.2.1 0)] (PC (dC, dI) [(h0, ce25)] [] sz z)) (va_Qv (fun (_ : Unit) => True) (fun (_ : Unit) (t : State) => ∃ (n0 : Nat), PG (dC, dI) [(h0, ce32 (z.2.1 0) n0 h0), (n0, ce3 z.1)] [] (va_A [(h0, ce25)] sz) sz 1 t) (va_A [(h0, ce25)] sz)) 1 3 (va_A [(h0, ce25)] sz) := by
  refine Met.ofW (cc := cX2_init) (maxL := 3) (ret := none) (by decide) rfl ?_
  intro p e s m args below meth c s₁ B hml hv
  obtain ⟨rfl, hsz, hP, hK, hD0, hX, hT⟩ := hv
  have hx := B.exec
  have hb := B.bytes
  have hr := B.returns
  have hts0 := atoms_spec (ws := .code yX2_init cX2_init 3 none :: wsL_law) B.pre
  have hts := xTail hts0
  have hown : s.vm.findClass RX2 = some m.cls := xown B.named rfl
  have hlocks := B.notSynchronized
  have hin : meth.name = "<init>" := (name_of_methodNamed B.named B.method).1
  subst hsz
  have hD := hD0.self (sz := s.heap.size)
  generalize hAe : va_A [(h0, ce25)] s.heap.size = A at hD hX ⊢
  have hA : ∀ q : Nat, s.heap.size ≤ q → A q := fun q h => by rw [← hAe]; exact Or.inr h
  have hS : va_S A s.heap s.heap [] := va_S.rf
  have hG : s.heap.size + 0 ≤ s.heap.size := Nat.le_refl _
  have hl := lv_entry ([.ref h0, .int 0, .ref (z.2.1 0)]) (n := 3) (Nat.le_of_ble_eq_true rfl)
  rw [lg_entry_eq]
  generalize (lg_sl ([.ref h0, .int 0, .ref (z.2.1 0)]) ++ List.replicate (3 - (lg_sl ([.ref h0, .int 0, .ref (z.2.1 0)])).length) Slot.unset).toArray = ls at hl ⊢
  have hl : lv_has ls 3 [(0, .ref h0), (1, .int 0), (2, .ref (z.2.1 0))] := hl
  refine lv_aload_n hx hb dX2_init_0 rfl (lv_at hl 0 rfl) ?_
  refine W.objInit hx hb hown (hts _ q_93) (hts _ q_4) (hts _ q_5) rfl (by rw [hml]; exact hl.1) rfl dX2_init_1 (Nat.le_of_ble_eq_true rfl) (Nat.le_of_ble_eq_true rfl) ?_
  refine W.eq (g2 := F0 m 4 ls []) rfl ?_
  refine lv_aload_n hx hb dX2_init_4 rfl (lv_at hl 0 rfl) ?_
  refine xa_new (ci := 0) (fs := [.int 0, .null, .int 0]) (C := RJx4a65c) (T := TJx4a65c) (N := 3) hx hb hts in_Jx4a65c tyJx4a65c tyJx4a65c_ok hown (hts _ q_94) (hts _ q_11) (hts _ q_12) hK hP hD hS hA rfl nf_Jx4a65c (Nat.le_of_ble_eq_true rfl) (Nat.le_of_ble_eq_true rfl) dX2_init_5 (fun a1 H2 hg8 hP hD hS => ?_)
  have hG : s.heap.size + 1 ≤ H2.size := by rw [hg8]; exact Nat.succ_le_succ hG
  have hP : va_P (dC, dI) xCl [(h0, ce25), (a1, ce2)] H2 := hP
  have hD := vd_as hP hD rfl
  refine W.widen (k := 1) (n := 3) (by decide) (by decide) ?_
  refine lv_dup hx hb dX2_init_8 rfl ?_
  have hM5 := k3_init l hl9 dC dI z a1 H2.size
  obtain ⟨hF3, hC6⟩ := pc_M hM5 hP hD hK hS hX hT hA [1] [] rfl rfl rfl
  refine va_callv (va_runI (As := []) (rest := [.ref a1, .ref h0]) ⟨hx, hb, hml, hown, hts⟩ hM5 (cwI 0 hts (gIL q_25) rfl rfl rfl (hts _ q_12) (hts _ q_95) (hts _ q_27) rfl hS_Jx4a65c_init_da8c8 ⟨Nat.le_of_ble_eq_true rfl, Nat.le_of_ble_eq_true rfl⟩) ⟨pc_blind, fun U hU hW => ⟨rfl, hC6 U hU hW⟩⟩ rfl rfl hl.1 rfl (lv_room (Nat.le_of_ble_eq_true rfl)) dX2_init_9 ⟨(Nat.le_of_ble_eq_true rfl), (Nat.le_of_ble_eq_true rfl)⟩) hS (fun q9 _ h9 => hF3 q9 h9) hF3 (fun u7 t7 H7 L7 ht7 hvm7 hw7 hB7 hz7 hk7 hS => ?_)
  obtain ⟨hP, hD, hK⟩ := pq_jn (wz := [(h0, ce25), (a1, ce3 z.1)]) (tz := []) hP hD hK [1] [] rfl hk7 hF3 hB7.1 ht7 hvm7 rfl rfl
  have hG : s.heap.size + 1 ≤ H7.size := Nat.le_trans hG hz7
  refine va_putF (D := (dC, dI)) (ci := 3) (v := .ref a1) (ty := .object "java/util/ArrayList") (C := RX2) (T := TX2) (N := 19) hx hb hts in_X2 tyX2 tyX2_ok nmX2 hown hK hP hD (va_Sre hS) 0 rfl rfl 2 (by decide) (hts _ q_96) (fun _ h9 => h9) rfl hin rfl (by decide +kernel) rfl rfl (Nat.le_of_ble_eq_true rfl) dX2_init_12 (fun H9 _ hP hD hS' => ?_)
  have hG : s.heap.size + 1 ≤ H9.size := Nat.le_trans hG hS'.1
  have hS := va_Str hS hS'
  have hP : va_P (dC, dI) xCl [(h0, ce26 a1), (a1, ce3 z.1)] H9 := hP
  have hD := vd_as hP hD rfl
  refine lv_aload_n hx hb dX2_init_15 rfl (lv_at hl 0 rfl) ?_
  refine lv_iload_n hx hb dX2_init_16 rfl (lv_at hl 1 rfl) ?_
  refine va_putF (D := (dC, dI)) (ci := 3) (v := .int 0) (ty := .int) (C := RX2) (T := TX2) (N := 19) hx hb hts in_X2 tyX2 tyX2_ok nmX2 hown hK hP hD (va_Sre hS) 0 rfl rfl 0 (by decide) (hts _ q_97) (fun _ h9 => h9) rfl hin rfl (by decide +kernel) rfl rfl (Nat.le_of_ble_eq_true rfl) dX2_init_17 (fun H10 _ hP hD hS' => ?_)
  have hG : s.heap.size + 1 ≤ H10.size := Nat.le_trans hG hS'.1
  have hS := va_Str hS hS'
  have hP : va_P (dC, dI) xCl [(h0, ce26 a1), (a1, ce3 z.1)] H10 := hP
  have hD := vd_as hP hD rfl
  refine lv_aload_n hx hb dX2_init_20 rfl (lv_at hl 0 rfl) ?_
  refine lv_aload_n hx hb dX2_init_21 rfl (lv_at hl 2 rfl) ?_
  refine va_putF (D := (dC, dI)) (ci := 3) (v := .ref (z.2.1 0)) (ty := .object "Deltacycle$NetKind") (C := RX2) (T := TX2) (N := 19) hx hb hts in_X2 tyX2 tyX2_ok nmX2 hown hK hP hD (va_Sre hS) 0 rfl rfl 1 (by decide) (hts _ q_98) (fun _ h9 => h9) rfl hin rfl (by decide +kernel) rfl rfl (Nat.le_of_ble_eq_true rfl) dX2_init_22 (fun H11 _ hP hD hS' => ?_)
  have hG : s.heap.size + 1 ≤ H11.size := Nat.le_trans hG hS'.1
  have hS := va_Str hS hS'
  have hP : va_P (dC, dI) xCl [(h0, ce27 (z.2.1 0) a1), (a1, ce3 z.1)] H11 := hP
  have hD := vd_as hP hD rfl
  refine lv_aload_n hx hb dX2_init_25 rfl (lv_at hl 0 rfl) ?_
  refine lv_bipush (v := 120) hx hb dX2_init_26 (by decide) ?_
  refine va_put (D := (dC, dI)) (ci := 3) (v := .int 120) (ty := .char) (C := RX2) (T := TX2) (N := 19) hx hb hts in_X2 tyX2 tyX2_ok nmX2 hown hK hP hD (va_Sre hS) 0 rfl rfl 6 (by decide) (hts _ q_99) (fun _ h9 => h9) rfl (by decide +kernel) rfl rfl (Nat.le_of_ble_eq_true rfl) dX2_init_28 (fun H12 _ hP hD hS' => ?_)
  have hG : s.heap.size + 1 ≤ H12.size := Nat.le_trans hG hS'.1
  have hS := va_Str hS hS'
  have hP : va_P (dC, dI) xCl [(h0, ce28 (z.2.1 0) a1), (a1, ce3 z.1)] H12 := hP
  have hD := vd_as hP hD rfl
  refine lv_aload_n hx hb dX2_init_31 rfl (lv_at hl 0 rfl) ?_
  refine lv_bipush (v := 120) hx hb dX2_init_32 (by decide) ?_
  refine va_put (D := (dC, dI)) (ci := 3) (v := .int 120) (ty := .char) (C := RX2) (T := TX2) (N := 19) hx hb hts in_X2 tyX2 tyX2_ok nmX2 hown hK hP hD (va_Sre hS) 0 rfl rfl 7 (by decide) (hts _ q_100) (fun _ h9 => h9) rfl (by decide +kernel) rfl rfl (Nat.le_of_ble_eq_true rfl) dX2_init_34 (fun H13 _ hP hD hS' => ?_)
  have hG : s.heap.size + 1 ≤ H13.size := Nat.le_trans hG hS'.1
  have hS := va_Str hS hS'
  have hP : va_P (dC, dI) xCl [(h0, ce29 (z.2.1 0) a1), (a1, ce3 z.1)] H13 := hP
  have hD := vd_as hP hD rfl
  refine lv_aload_n hx hb dX2_init_37 rfl (lv_at hl 0 rfl) ?_
  refine lv_bipush (v := 120) hx hb dX2_init_38 (by decide) ?_
  refine va_put (D := (dC, dI)) (ci := 3) (v := .int 120) (ty := .char) (C := RX2) (T := TX2) (N := 19) hx hb hts in_X2 tyX2 tyX2_ok nmX2 hown hK hP hD (va_Sre hS) 0 rfl rfl 11 (by decide) (hts _ q_101) (fun _ h9 => h9) rfl (by decide +kernel) rfl rfl (Nat.le_of_ble_eq_true rfl) dX2_init_40 (fun H14 _ hP hD hS' => ?_)
  have hG : s.heap.size + 1 ≤ H14.size := Nat.le_trans hG hS'.1
  have hS := va_Str hS hS'
  have hP : va_P (dC, dI) xCl [(h0, ce30 (z.2.1 0) a1), (a1, ce3 z.1)] H14 := hP
  have hD := vd_as hP hD rfl
  refine lv_aload_n hx hb dX2_init_43 rfl (lv_at hl 0 rfl) ?_
  refine lv_bipush (v := 120) hx hb dX2_init_44 (by decide) ?_
  refine va_put (D := (dC, dI)) (ci := 3) (v := .int 120) (ty := .char) (C := RX2) (T := TX2) (N := 19) hx hb hts in_X2 tyX2 tyX2_ok nmX2 hown hK hP hD (va_Sre hS) 0 rfl rfl 12 (by decide) (hts _ q_102) (fun _ h9 => h9) rfl (by decide +kernel) rfl rfl (Nat.le_of_ble_eq_true rfl) dX2_init_46 (fun H15 _ hP hD hS' => ?_)
  have hG : s.heap.size + 1 ≤ H15.size := Nat.le_trans hG hS'.1
  have hS := va_Str hS hS'
  have hP : va_P (dC, dI) xCl [(h0, ce31 (z.2.1 0) a1), (a1, ce3 z.1)] H15 := hP
  have hD := vd_as hP hD rfl
  refine lv_aload_n hx hb dX2_init_49 rfl (lv_at hl 0 rfl) ?_
  refine lv_aload_n hx hb dX2_init_50 rfl (lv_at hl 0 rfl) ?_
  refine va_put (D := (dC, dI)) (ci := 3) (v := .ref h0) (ty := .object "Deltacycle$Net") (C := RX2) (T := TX2) (N := 19) hx hb hts in_X2 tyX2 tyX2_ok nmX2 hown hK hP hD (va_Sre hS) 0 rfl rfl 16 (by decide) (hts _ q_103) (fun _ h9 => h9) rfl (by decide +kernel) rfl rfl (Nat.le_of_ble_eq_true rfl) dX2_init_51 (fun H16 _ hP hD hS' => ?_)
  have hG : s.heap.size + 1 ≤ H16.size := Nat.le_trans hG hS'.1
  have hS := va_Str hS hS'
  have hP : va_P (dC, dI) xCl [(h0, ce32 (z.2.1 0) a1 h0), (a1, ce3 z.1)] H16 := hP
  have hD := vd_as hP hD rfl
  exact W.vret hx hb hr (fun t9 ht9 hW9 => ⟨⟨(), rfl, trivial, ⟨a1, ⟨pq_mk2 hP hD hK [0, 1] [] rfl rfl rfl ht9 hW9, by rw [ht9]; exact Nat.le_trans (Nat.add_le_add_left (Nat.le_of_ble_eq_true rfl) _) hG⟩⟩⟩, hS.F ht9⟩) hS.2.2 dX2_init_54

set_option maxHeartbeats 4000000 in
set_option maxRecDepth 100000 in
theorem k13_grow (l : Launch) (hl9 : l.stackTraces = false) (dC : Nat → ClassId) (dI : Nat → Nat → Nat) (z : XZ) (h0 : Nat) (sz : Nat) : Met l yJx4a65c_grow_92f84 (.code yJx4a65c_grow_92f84 cJx4a65c_grow_92f84 4 (some (.array (.object "java/lang/Object"))) :: wsL_law) ({ frames := 1, cells := 1, slots := 10, locals := 22 }) (va_Pc [.ref h0, .int 1] (PC (dC, dI) [(h0, ce33 z.1)] [] sz z)) (va_Qr (fun (_ : Unit) => True) (fun (_ : Unit) (ra : Nat) (t : State) => ∃ (n0 : Nat), ∃ (m0 : ClassId), ra = n0 ∧ PG (dC, dI) [(h0, ce33 n0), (n0, ce34 m0)] [(m0, .object "java/lang/Object")] (va_A [(h0, ce33 z.1)] sz) sz 1 t) (va_A [(h0, ce33 z.1)] sz)) 1 10 (va_A [(h0, ce33 z.1)] sz) := by
  refine Met.ofW (cc := cJx4a65c_grow_92f84) (maxL := 4) (ret := (some (.array (.object "java/lang/Object")))) (by decide) rfl ?_
  intro p e s m args below meth c s₁ B hml hv
  obtain ⟨rfl, hsz, hP, hK, hD0, hX, hT⟩ := hv
  have hx := B.exec
  have hb := B.bytes
  have hr := B.returns
  have hts0 := atoms_spec (ws := .code yJx4a65c_grow_92f84 cJx4a65c_grow_92f84 4 (some (.array (.object "java/lang/Object"))) :: wsL_law) B.pre
  have hts := xTail hts0
  have hown : s.vm.findClass RJx4a65c = some m.cls := xown B.named rfl
  have hlocks := B.notSynchronized
  subst hsz
  have hD := hD0.self (sz := s.heap.size)
  generalize hAe : va_A [(h0, ce33 z.1)] s.heap.size = A at hD hX ⊢
  have hA : ∀ q : Nat, s.heap.size ≤ q → A q := fun q h => by rw [← hAe]; exact Or.inr h
  have hS : va_S A s.heap s.heap [] := va_S.rf
  have hG : s.heap.size + 0 ≤ s.heap.size := Nat.le_refl _
  have hl := lv_entry ([.ref h0, .int 1]) (n := 4) (Nat.le_of_ble_eq_true rfl)
  rw [lg_entry_eq]
  generalize (lg_sl ([.ref h0, .int 1]) ++ List.replicate (4 - (lg_sl ([.ref h0, .int 1])).length) Slot.unset).toArray = ls at hl ⊢
  have hl : lv_has ls 4 [(0, .ref h0), (1, .int 1)] := hl
  refine lv_aload_n hx hb dJx4a65c_grow_92f84_0 rfl (lv_at hl 0 rfl) ?_
  refine va_get (D := (dC, dI)) (ci := 0) (v := .ref z.1) (C := RJx4a65c) (T := TJx4a65c) (N := 3) hx hb hts in_Jx4a65c hown hK hP 0 rfl rfl 1 (by decide) (hts _ q_24) (fun _ h9 => h9) rfl dJx4a65c_grow_92f84_1 ?_
  refine va_tlen hx hb hX.1.2 hS (v := 0) rfl dJx4a65c_grow_92f84_4 ?_
  refine lv_istore_n (lv' := [(2, .int 0), (0, .ref h0), (1, .int 1)]) hx hb dJx4a65c_grow_92f84_5 rfl hl (by decide) rfl (fun ls hl => ?_)
  refine lv_iload_n hx hb dJx4a65c_grow_92f84_6 rfl (lv_at hl 0 rfl) ?_
  refine lv_if_gt (tgt := 20) hx hb dJx4a65c_grow_92f84_7 (by decide) (fun cz => absurd cz (by decide)) (fun _ => ?_)
  refine lv_aload_n hx hb dJx4a65c_grow_92f84_10 rfl (lv_at hl 1 rfl) ?_
  refine va_get (D := (dC, dI)) (ci := 0) (v := .ref z.1) (C := RJx4a65c) (T := TJx4a65c) (N := 3) hx hb hts in_Jx4a65c hown hK hP 0 rfl rfl 1 (by decide) (hts _ q_24) (fun _ h9 => h9) rfl dJx4a65c_grow_92f84_11 ?_
  refine va_gets (own := RJx4a65c) (ref := "java/util/ArrayList") hx hb hX.1.1 hS hown (hts _ q_23) (fun _ h9 => h9) dJx4a65c_grow_92f84_14 ?_
  refine lv_acmp_eq (rx := (some z.1)) (ry := (some z.1)) (tgt := 45) hx hb dJx4a65c_grow_92f84_17 (by decide) (fun _ => ?_) (fun cz => absurd rfl cz)
  refine lv_aload_n hx hb dJx4a65c_grow_92f84_45 rfl (lv_at hl 1 rfl) ?_
  refine lv_bipush (v := 10) hx hb dJx4a65c_grow_92f84_46 (by decide) ?_
  refine lv_iload_n hx hb dJx4a65c_grow_92f84_48 rfl (lv_at hl 2 rfl) ?_
  refine va_mmax hx hb (hml.trans hl.1.symm) hown (hts _ q_109) (hts _ q_110) (hts _ q_111) (hts _ q_112) (Nat.le_of_ble_eq_true rfl) (Nat.le_of_ble_eq_true rfl) (Nat.le_of_ble_eq_true rfl) (Nat.le_of_ble_eq_true rfl) dJx4a65c_grow_92f84_49 ?_
  refine lv_topi (fun y1 ey1 => ?_)
  obtain rfl : y1 = 10 := ey1.trans (by decide)
  refine xa_newq (C := "java/lang/Object") hx hb hown (hts _ q_113) hT.2.2.2.1 hK hP hD hS hA (n := 10) (N' := 10) (by decide) (by decide) (Nat.le_of_ble_eq_true rfl) (Nat.le_of_ble_eq_true rfl) (Nat.le_of_ble_eq_true rfl) dJx4a65c_grow_92f84_52 (fun a2 k3 H4 hg8 hK hP hD hS => ?_)
  have hG : s.heap.size + 1 ≤ H4.size := by rw [hg8]; exact Nat.succ_le_succ hG
  have hK : va_K (dC, dI) xCl [(k3, .object "java/lang/Object")] s := hK
  have hP : va_P (dC, dI) xCl [(h0, ce33 z.1), (a2, ce34 k3)] H4 := hP
  have hD := vd_as hP hD rfl
  refine lv_dup_x1 hx hb dJx4a65c_grow_92f84_55 rfl rfl ?_
  refine va_put (D := (dC, dI)) (ci := 0) (v := .ref a2) (ty := .array (.object "java/lang/Object")) (C := RJx4a65c) (T := TJx4a65c) (N := 3) hx hb hts in_Jx4a65c tyJx4a65c tyJx4a65c_ok nmJx4a65c hown hK hP hD (va_Sre hS) 0 rfl rfl 1 (by decide) (hts _ q_24) (fun _ h9 => h9) rfl (by decide +kernel) rfl rfl (Nat.le_of_ble_eq_true rfl) dJx4a65c_grow_92f84_56 (fun H5 _ hP hD hS' => ?_)
  have hG : s.heap.size + 1 ≤ H5.size := Nat.le_trans hG hS'.1
  have hS := va_Str hS hS'
  have hP : va_P (dC, dI) xCl [(h0, ce33 a2), (a2, ce34 k3)] H5 := hP
  have hD := vd_as hP hD rfl
  exact W.aret (v := .ref a2) hx hb hr (by first | exact Or.inl ⟨_, rfl⟩ | exact Or.inr ⟨_, rfl⟩) (Or.inr ⟨_, rfl⟩) (fun t9 ht9 hW9 => ⟨⟨(), a2, rfl, trivial, ⟨a2, k3, rfl, ⟨pq_mk2 hP hD hK [0, 1] [0] rfl rfl rfl ht9 hW9, by rw [ht9]; exact Nat.le_trans (Nat.add_le_add_left (Nat.le_of_ble_eq_true rfl) _) hG⟩⟩⟩, hS.F ht9⟩) hS.2.2 dJx4a65c_grow_92f84_59

set_option maxHeartbeats 4000000 in
set_option maxRecDepth 100000 in
theorem k14_grow (l : Launch) (hl9 : l.stackTraces = false) (dC : Nat → ClassId) (dI : Nat → Nat → Nat) (z : XZ) (h0 : Nat) (sz : Nat) : Met l yJx4a65c_grow_d5877 (.code yJx4a65c_grow_d5877 cJx4a65c_grow_d5877 1 (some (.array (.object "java/lang/Object"))) :: wsL_law) ({ frames := 2, cells := 1, slots := 10, locals := 45 }) (va_Pc [.ref h0] (PC (dC, dI) [(h0, ce33 z.1)] [] sz z)) (va_Qr (fun (_ : Unit) => True) (fun (_ : Unit) (ra : Nat) (t : State) => ∃ (n0 : Nat), ∃ (m0 : ClassId), ra = n0 ∧ PG (dC, dI) [(h0, ce33 n0), (n0, ce34 m0)] [(m0, .object "java/lang/Object")] (va_A [(h0, ce33 z.1)] sz) sz 1 t) (va_A [(h0, ce33 z.1)] sz)) 1 10 (va_A [(h0, ce33 z.1)] sz) := by
  refine Met.ofW (cc := cJx4a65c_grow_d5877) (maxL := 1) (ret := (some (.array (.object "java/lang/Object")))) (by decide) rfl ?_
  intro p e s m args below meth c s₁ B hml hv
  obtain ⟨rfl, hsz, hP, hK, hD0, hX, hT⟩ := hv
  have hx := B.exec
  have hb := B.bytes
  have hr := B.returns
  have hts0 := atoms_spec (ws := .code yJx4a65c_grow_d5877 cJx4a65c_grow_d5877 1 (some (.array (.object "java/lang/Object"))) :: wsL_law) B.pre
  have hts := xTail hts0
  have hown : s.vm.findClass RJx4a65c = some m.cls := xown B.named rfl
  have hlocks := B.notSynchronized
  subst hsz
  have hD := hD0.self (sz := s.heap.size)
  generalize hAe : va_A [(h0, ce33 z.1)] s.heap.size = A at hD hX ⊢
  have hA : ∀ q : Nat, s.heap.size ≤ q → A q := fun q h => by rw [← hAe]; exact Or.inr h
  have hS : va_S A s.heap s.heap [] := va_S.rf
  have hG : s.heap.size + 0 ≤ s.heap.size := Nat.le_refl _
  have hl := lv_entry ([.ref h0]) (n := 1) (Nat.le_of_ble_eq_true rfl)
  rw [lg_entry_eq]
  generalize (lg_sl ([.ref h0]) ++ List.replicate (1 - (lg_sl ([.ref h0])).length) Slot.unset).toArray = ls at hl ⊢
  have hl : lv_has ls 1 [(0, .ref h0)] := hl
  refine lv_aload_n hx hb dJx4a65c_grow_d5877_0 rfl (lv_at hl 0 rfl) ?_
  refine lv_aload_n hx hb dJx4a65c_grow_d5877_1 rfl (lv_at hl 0 rfl) ?_
  refine va_get (D := (dC, dI)) (ci := 0) (v := .int 0) (C := RJx4a65c) (T := TJx4a65c) (N := 3) hx hb hts in_Jx4a65c hown hK hP 0 rfl rfl 2 (by decide) (hts _ q_74) (fun _ h9 => h9) rfl dJx4a65c_grow_d5877_2 ?_
  refine lv_iconst (v := 1) hx hb dJx4a65c_grow_d5877_5 (by decide) ?_
  refine lv_iadd hx hb dJx4a65c_grow_d5877_6 ?_
  refine lv_topi (fun y1 ey1 => ?_)
  obtain rfl : y1 = 1 := ey1.trans (by decide)
  have hM4 := k13_grow l hl9 dC dI z h0 s.heap.size
  obtain ⟨hF2, hC5⟩ := pc_M hM4 hP hD hK hS hX hT hA [0] [] rfl rfl rfl
  refine va_callr (va_runV (As := [.int 1]) (rest := []) ⟨hx, hb, hml, hown, hts⟩ hM4 (cwV 1 hts (gV q_115 q_116 q_117 q_12 q_114) rfl rfl rfl hV_Jx4a65c_grow_92f84 ⟨Nat.le_of_ble_eq_true rfl, Nat.le_of_ble_eq_true rfl⟩) ⟨pc_blind, va_recv hK hP (ci := 0) (q := (RJx4a65c, TJx4a65c, 3)) (q0 := 0) rfl rfl, fun U hU hW => ⟨rfl, hC5 U hU hW⟩⟩ rfl rfl hl.1 rfl (lv_room (Nat.le_of_ble_eq_true rfl)) dJx4a65c_grow_d5877_7 ⟨(Nat.le_of_ble_eq_true rfl), (Nat.le_of_ble_eq_true rfl)⟩) hS (fun q9 _ h9 => hF2 q9 h9) hF2 (fun u6 r7 t6 H6 L6 ht6 hvm6 hw6 hB6 hz6 hk6 hS => ?_)
  obtain ⟨a8, k9, hr6, hB6⟩ := hB6
  obtain ⟨hP, hD, hK⟩ := pq_jn (wz := [(h0, ce33 a8), (a8, ce34 k9)]) (tz := [(k9, .object "java/lang/Object")]) hP hD hK [0] [] rfl hk6 hF2 hB6.1 ht6 hvm6 rfl rfl
  have hG : s.heap.size + 1 ≤ H6.size := va_gr (g := 0) (g1 := 1) hG (by rw [← ht6]; exact hB6.2)
  refine W.eq (g2 := F0 m 10 ls [.ref a8]) (by rw [hr6]) ?_
  refine W.widen (k := 1) (n := 10) (by decide) (by decide) ?_
  exact W.aret (v := .ref a8) hx hb hr (by first | exact Or.inl ⟨_, rfl⟩ | exact Or.inr ⟨_, rfl⟩) (Or.inr ⟨_, rfl⟩) (fun t9 ht9 hW9 => ⟨⟨(), a8, rfl, trivial, ⟨a8, k9, rfl, ⟨pq_mk2 hP hD hK [0, 1] [0] rfl rfl rfl ht9 hW9, by rw [ht9]; exact Nat.le_trans (Nat.add_le_add_left (Nat.le_of_ble_eq_true rfl) _) hG⟩⟩⟩, hS.F ht9⟩) hS.2.2 dJx4a65c_grow_d5877_10

set_option maxHeartbeats 4000000 in
set_option maxRecDepth 100000 in
theorem k15_add (l : Launch) (hl9 : l.stackTraces = false) (dC : Nat → ClassId) (dI : Nat → Nat → Nat) (z : XZ) (h0 h1 : Nat) (o0 : Nat) (sz : Nat) : Met l yJx4a65c_add_72be8 (.code yJx4a65c_add_72be8 cJx4a65c_add_72be8 4 none :: wsL_law) ({ frames := 3, cells := 1, slots := 10, locals := 65 }) (va_Pc [.ref h0, .ref h1, .ref z.1, .int 0] (PC (dC, dI) [(h0, ce33 z.1), (h1, ce32 (z.2.1 0) o0 h1)] [] sz z)) (va_Qv (fun (_ : Unit) => True) (fun (_ : Unit) (t : State) => ∃ (n0 : Nat), ∃ (m0 : ClassId), PG (dC, dI) [(h0, ce36 n0), (h1, ce32 (z.2.1 0) o0 h1), (n0, ce35 m0 h1)] [(m0, .object "java/lang/Object")] (va_A [(h0, ce33 z.1), (h1, ce32 (z.2.1 0) o0 h1)] sz) sz 1 t) (va_A [(h0, ce33 z.1), (h1, ce32 (z.2.1 0) o0 h1)] sz)) 1 10 (va_A [(h0, ce33 z.1), (h1, ce32 (z.2.1 0) o0 h1)] sz) := by
  refine Met.ofW (cc := cJx4a65c_add_72be8) (maxL := 4) (ret := none) (by decide) rfl ?_
  intro p e s m args below meth c s₁ B hml hv
  obtain ⟨rfl, hsz, hP, hK, hD0, hX, hT⟩ := hv
  have hx := B.exec
  have hb := B.bytes
  have hr := B.returns
  have hts0 := atoms_spec (ws := .code yJx4a65c_add_72be8 cJx4a65c_add_72be8 4 none :: wsL_law) B.pre
  have hts := xTail hts0
  have hown : s.vm.findClass RJx4a65c = some m.cls := xown B.named rfl
  have hlocks := B.notSynchronized
  subst hsz
  have hD := hD0.self (sz := s.heap.size)
  generalize hAe : va_A [(h0, ce33 z.1), (h1, ce32 (z.2.1 0) o0 h1)] s.heap.size = A at hD hX ⊢
  have hA : ∀ q : Nat, s.heap.size ≤ q → A q := fun q h => by rw [← hAe]; exact Or.inr h
  have hS : va_S A s.heap s.heap [] := va_S.rf
  have hG : s.heap.size + 0 ≤ s.heap.size := Nat.le_refl _
  have hl := lv_entry ([.ref h0, .ref h1, .ref z.1, .int 0]) (n := 4) (Nat.le_of_ble_eq_true rfl)
  rw [lg_entry_eq]
  generalize (lg_sl ([.ref h0, .ref h1, .ref z.1, .int 0]) ++ List.replicate (4 - (lg_sl ([.ref h0, .ref h1, .ref z.1, .int 0])).length) Slot.unset).toArray = ls at hl ⊢
  have hl : lv_has ls 4 [(0, .ref h0), (1, .ref h1), (2, .ref z.1), (3, .int 0)] := hl
  refine lv_iload_n hx hb dJx4a65c_add_72be8_0 rfl (lv_at hl 3 rfl) ?_
  refine lv_aload_n hx hb dJx4a65c_add_72be8_1 rfl (lv_at hl 2 rfl) ?_
  refine va_tlen hx hb hX.1.2 hS (v := 0) rfl dJx4a65c_add_72be8_2 ?_
  refine lv_icmp_ne (tgt := 11) hx hb dJx4a65c_add_72be8_3 (by decide) (fun cz => absurd (by decide) cz) (fun _ => ?_)
  refine lv_aload_n hx hb dJx4a65c_add_72be8_6 rfl (lv_at hl 0 rfl) ?_
  have hM3 := k14_grow l hl9 dC dI z h0 s.heap.size
  obtain ⟨hF1, hC4⟩ := pc_M hM3 hP hD hK hS hX hT hA [0] [] rfl rfl rfl
  refine va_callr (va_runV (As := []) (rest := []) ⟨hx, hb, hml, hown, hts⟩ hM3 (cwV 0 hts (gV q_119 q_120 q_121 q_12 q_118) rfl rfl rfl hV_Jx4a65c_grow_d5877 ⟨Nat.le_of_ble_eq_true rfl, Nat.le_of_ble_eq_true rfl⟩) ⟨pc_blind, va_recv hK hP (ci := 0) (q := (RJx4a65c, TJx4a65c, 3)) (q0 := 0) rfl rfl, fun U hU hW => ⟨rfl, hC4 U hU hW⟩⟩ rfl rfl hl.1 rfl (lv_room (Nat.le_of_ble_eq_true rfl)) dJx4a65c_add_72be8_7 ⟨(Nat.le_of_ble_eq_true rfl), (Nat.le_of_ble_eq_true rfl)⟩) hS (fun q9 _ h9 => hF1 q9 h9) hF1 (fun u5 r6 t5 H5 L5 ht5 hvm5 hw5 hB5 hz5 hk5 hS => ?_)
  obtain ⟨a7, k8, hr5, hB5⟩ := hB5
  obtain ⟨hP, hD, hK⟩ := pq_jn (wz := [(h1, ce32 (z.2.1 0) o0 h1), (h0, ce33 a7), (a7, ce34 k8)]) (tz := [(k8, .object "java/lang/Object")]) hP hD hK [0] [] rfl hk5 hF1 hB5.1 ht5 hvm5 rfl rfl
  have hG : s.heap.size + 1 ≤ H5.size := va_gr (g := 0) (g1 := 1) hG (by rw [← ht5]; exact hB5.2)
  refine W.eq (g2 := F0 m 10 ls [.ref a7]) (by rw [hr5]) ?_
  refine W.widen (k := 1) (n := 10) (by decide) (by decide) ?_
  refine lv_astore_n (lv' := [(2, .ref a7), (0, .ref h0), (1, .ref h1), (3, .int 0)]) hx hb dJx4a65c_add_72be8_10 rfl hl (by decide) rfl (fun ls hl => ?_)
  refine lv_aload_n hx hb dJx4a65c_add_72be8_11 rfl (lv_at hl 0 rfl) ?_
  refine lv_iload_n hx hb dJx4a65c_add_72be8_12 rfl (lv_at hl 3 rfl) ?_
  refine lv_aload_n hx hb dJx4a65c_add_72be8_13 rfl (lv_at hl 2 rfl) ?_
  refine vb_astq (E := "java/lang/Object") (C := RX2) hx hb hK hP hD (va_Sre hS) 2 0 rfl rfl (va_recv hK hP (ci := 3) (q := (RX2, TX2, 19)) (q0 := 0) rfl rfl) (vb_asgC (hT.2.1.1 (RX2, "java/lang/Object") (by decide))) (i := 0) (by unfold vp_in; decide) dJx4a65c_add_72be8_14 (fun H9 _ hP hD hS' => ?_)
  have hG : s.heap.size + 1 ≤ H9.size := Nat.le_trans hG hS'.1
  have hS := va_Str hS hS'
  have hP : va_P (dC, dI) xCl [(h1, ce32 (z.2.1 0) o0 h1), (h0, ce33 a7), (a7, ce35 k8 h1)] H9 := hP
  have hD := vd_as hP hD rfl
  refine lv_aload_n hx hb dJx4a65c_add_72be8_15 rfl (lv_at hl 1 rfl) ?_
  refine lv_iload_n hx hb dJx4a65c_add_72be8_16 rfl (lv_at hl 3 rfl) ?_
  refine lv_iconst (v := 1) hx hb dJx4a65c_add_72be8_17 (by decide) ?_
  refine lv_iadd hx hb dJx4a65c_add_72be8_18 ?_
  refine lv_topi (fun y10 ey10 => ?_)
  obtain rfl : y10 = 1 := ey10.trans (by decide)
  refine va_put (D := (dC, dI)) (ci := 0) (v := .int 1) (ty := .int) (C := RJx4a65c) (T := TJx4a65c) (N := 3) hx hb hts in_Jx4a65c tyJx4a65c tyJx4a65c_ok nmJx4a65c hown hK hP hD (va_Sre hS) 1 rfl rfl 2 (by decide) (hts _ q_74) (fun _ h9 => h9) rfl (by decide +kernel) rfl rfl (Nat.le_of_ble_eq_true rfl) dJx4a65c_add_72be8_19 (fun H11 _ hP hD hS' => ?_)
  have hG : s.heap.size + 1 ≤ H11.size := Nat.le_trans hG hS'.1
  have hS := va_Str hS hS'
  have hP : va_P (dC, dI) xCl [(h1, ce32 (z.2.1 0) o0 h1), (h0, ce36 a7), (a7, ce35 k8 h1)] H11 := hP
  have hD := vd_as hP hD rfl
  exact W.vret hx hb hr (fun t9 ht9 hW9 => ⟨⟨(), rfl, trivial, ⟨a7, k8, ⟨pq_mk2 hP hD hK [1, 0, 2] [0] rfl rfl rfl ht9 hW9, by rw [ht9]; exact Nat.le_trans (Nat.add_le_add_left (Nat.le_of_ble_eq_true rfl) _) hG⟩⟩⟩, hS.F ht9⟩) hS.2.2 dJx4a65c_add_72be8_22

set_option maxHeartbeats 4000000 in
set_option maxRecDepth 100000 in
theorem k16_add (l : Launch) (hl9 : l.stackTraces = false) (dC : Nat → ClassId) (dI : Nat → Nat → Nat) (z : XZ) (h0 h1 : Nat) (o0 : Nat) (sz : Nat) : Met l yJx4a65c_add_9ea2d (.code yJx4a65c_add_9ea2d cJx4a65c_add_9ea2d 2 (some .boolean) :: wsL_law) ({ frames := 4, cells := 1, slots := 10, locals := 88 }) (va_Pc [.ref h0, .ref h1] (PC (dC, dI) [(h0, ce3 z.1), (h1, ce32 (z.2.1 0) o0 h1)] [] sz z)) (va_Qi (fun (r : Int32) (_ : Unit) => r = 1) (fun (_ : Unit) (t : State) => ∃ (n0 : Nat), ∃ (m0 : ClassId), PG (dC, dI) [(h0, ce36 n0), (h1, ce32 (z.2.1 0) o0 h1), (n0, ce35 m0 h1)] [(m0, .object "java/lang/Object")] (va_A [(h0, ce3 z.1), (h1, ce32 (z.2.1 0) o0 h1)] sz) sz 1 t) (va_A [(h0, ce3 z.1), (h1, ce32 (z.2.1 0) o0 h1)] sz)) 1 10 (va_A [(h0, ce3 z.1), (h1, ce32 (z.2.1 0) o0 h1)] sz) := by
  refine Met.ofW (cc := cJx4a65c_add_9ea2d) (maxL := 2) (ret := (some .boolean)) (by decide) rfl ?_
  intro p e s m args below meth c s₁ B hml hv
  obtain ⟨rfl, hsz, hP, hK, hD0, hX, hT⟩ := hv
  have hx := B.exec
  have hb := B.bytes
  have hr := B.returns
  have hts0 := atoms_spec (ws := .code yJx4a65c_add_9ea2d cJx4a65c_add_9ea2d 2 (some .boolean) :: wsL_law) B.pre
  have hts := xTail hts0
  have hown : s.vm.findClass RJx4a65c = some m.cls := xown B.named rfl
  have hlocks := B.notSynchronized
  subst hsz
  have hD := hD0.self (sz := s.heap.size)
  generalize hAe : va_A [(h0, ce3 z.1), (h1, ce32 (z.2.1 0) o0 h1)] s.heap.size = A at hD hX ⊢
  have hA : ∀ q : Nat, s.heap.size ≤ q → A q := fun q h => by rw [← hAe]; exact Or.inr h
  have hS : va_S A s.heap s.heap [] := va_S.rf
  have hG : s.heap.size + 0 ≤ s.heap.size := Nat.le_refl _
  have hl := lv_entry ([.ref h0, .ref h1]) (n := 2) (Nat.le_of_ble_eq_true rfl)
  rw [lg_entry_eq]
  generalize (lg_sl ([.ref h0, .ref h1]) ++ List.replicate (2 - (lg_sl ([.ref h0, .ref h1])).length) Slot.unset).toArray = ls at hl ⊢
  have hl : lv_has ls 2 [(0, .ref h0), (1, .ref h1)] := hl
  refine lv_aload_n hx hb dJx4a65c_add_9ea2d_0 rfl (lv_at hl 0 rfl) ?_
  refine lv_dup hx hb dJx4a65c_add_9ea2d_1 rfl ?_
  refine va_get (D := (dC, dI)) (ci := 0) (v := .int 0) (C := RJx4a65c) (T := TJx4a65c) (N := 3) hx hb hts in_Jx4a65c hown hK hP 0 rfl rfl 0 (by decide) (hts _ q_108) (u_same (hts _ q_107)) rfl dJx4a65c_add_9ea2d_2 ?_
  refine lv_iconst (v := 1) hx hb dJx4a65c_add_9ea2d_5 (by decide) ?_
  refine lv_iadd hx hb dJx4a65c_add_9ea2d_6 ?_
  refine lv_topi (fun y1 ey1 => ?_)
  obtain rfl : y1 = 1 := ey1.trans (by decide)
  refine va_put (D := (dC, dI)) (ci := 0) (v := .int 1) (ty := .int) (C := RJx4a65c) (T := TJx4a65c) (N := 3) hx hb hts in_Jx4a65c tyJx4a65c tyJx4a65c_ok nmJx4a65c hown hK hP hD (va_Sre hS) 0 rfl rfl 0 (by decide) (hts _ q_108) (u_same (hts _ q_107)) rfl (by decide +kernel) rfl rfl (Nat.le_of_ble_eq_true rfl) dJx4a65c_add_9ea2d_7 (fun H2 _ hP hD hS' => ?_)
  have hG : s.heap.size + 0 ≤ H2.size := Nat.le_trans hG hS'.1
  have hS := va_Str hS hS'
  have hP : va_P (dC, dI) xCl [(h0, ce33 z.1), (h1, ce32 (z.2.1 0) o0 h1)] H2 := hP
  have hD := vd_as hP hD rfl
  refine lv_aload_n hx hb dJx4a65c_add_9ea2d_10 rfl (lv_at hl 0 rfl) ?_
  refine lv_aload_n hx hb dJx4a65c_add_9ea2d_11 rfl (lv_at hl 1 rfl) ?_
  refine lv_aload_n hx hb dJx4a65c_add_9ea2d_12 rfl (lv_at hl 0 rfl) ?_
  refine va_get (D := (dC, dI)) (ci := 0) (v := .ref z.1) (C := RJx4a65c) (T := TJx4a65c) (N := 3) hx hb hts in_Jx4a65c hown hK hP 0 rfl rfl 1 (by decide) (hts _ q_24) (fun _ h9 => h9) rfl dJx4a65c_add_9ea2d_13 ?_
  refine lv_aload_n hx hb dJx4a65c_add_9ea2d_16 rfl (lv_at hl 0 rfl) ?_
  refine va_get (D := (dC, dI)) (ci := 0) (v := .int 0) (C := RJx4a65c) (T := TJx4a65c) (N := 3) hx hb hts in_Jx4a65c hown hK hP 0 rfl rfl 2 (by decide) (hts _ q_74) (fun _ h9 => h9) rfl dJx4a65c_add_9ea2d_17 ?_
  have hM5 := k15_add l hl9 dC dI z h0 h1 o0 H2.size
  obtain ⟨hF3, hC6⟩ := pc_M hM5 hP hD hK hS hX hT hA [0, 1] [] rfl rfl rfl
  refine va_callv (va_runV (As := [.ref h1, .ref z.1, .int 0]) (rest := []) ⟨hx, hb, hml, hown, hts⟩ hM5 (cwV 3 hts (gV q_123 q_124 q_125 q_12 q_122) rfl rfl rfl hV_Jx4a65c_add_72be8 ⟨Nat.le_of_ble_eq_true rfl, Nat.le_of_ble_eq_true rfl⟩) ⟨pc_blind, va_recv hK hP (ci := 0) (q := (RJx4a65c, TJx4a65c, 3)) (q0 := 0) rfl rfl, fun U hU hW => ⟨rfl, hC6 U hU hW⟩⟩ rfl rfl hl.1 rfl (lv_room (Nat.le_of_ble_eq_true rfl)) dJx4a65c_add_9ea2d_20 ⟨(Nat.le_of_ble_eq_true rfl), (Nat.le_of_ble_eq_true rfl)⟩) hS (fun q9 _ h9 => hF3 q9 h9) hF3 (fun u7 t7 H7 L7 ht7 hvm7 hw7 hB7 hz7 hk7 hS => ?_)
  obtain ⟨a9, k10, hB7⟩ := hB7
  obtain ⟨hP, hD, hK⟩ := pq_jn (wz := [(h0, ce36 a9), (h1, ce32 (z.2.1 0) o0 h1), (a9, ce35 k10 h1)]) (tz := [(k10, .object "java/lang/Object")]) hP hD hK [0, 1] [] rfl hk7 hF3 hB7.1 ht7 hvm7 rfl rfl
  have hG : s.heap.size + 1 ≤ H7.size := va_gr (g := 0) (g1 := 1) hG (by rw [← ht7]; exact hB7.2)
  refine W.widen (k := 1) (n := 10) (by decide) (by decide) ?_
  refine lv_iconst (v := 1) hx hb dJx4a65c_add_9ea2d_23 (by decide) ?_
  exact W.zret (v := 1) (ty := .boolean) hx hb hr rfl (fun t9 ht9 hW9 => ⟨⟨1, (), rfl, rfl, ⟨a9, k10, ⟨pq_mk2 hP hD hK [0, 1, 2] [0] rfl rfl rfl ht9 hW9, by rw [ht9]; exact Nat.le_trans (Nat.add_le_add_left (Nat.le_of_ble_eq_true rfl) _) hG⟩⟩⟩, hS.F ht9⟩) hS.2.2 dJx4a65c_add_9ea2d_24

set_option maxHeartbeats 4000000 in
set_option maxRecDepth 100000 in
theorem k17_isSource (l : Launch) (hl9 : l.stackTraces = false) (dC : Nat → ClassId) (dI : Nat → Nat → Nat) (z : XZ) (h0 : Nat) (o0 : Nat) (sz : Nat) : Met l yX2_isSource (.code yX2_isSource cX2_isSource 1 (some .boolean) :: wsL_law) ({ frames := 0, cells := 0, slots := 0, locals := 0 }) (va_Pc [.ref h0] (PC (dC, dI) [(h0, ce32 (z.2.1 0) o0 h0)] [] sz z)) (va_Qi (fun (r : Int32) (_ : Unit) => r = 1) (fun (_ : Unit) (t : State) => PG (dC, dI) [(h0, ce32 (z.2.1 0) o0 h0)] [] (va_A [(h0, ce32 (z.2.1 0) o0 h0)] sz) sz 0 t) (va_A [(h0, ce32 (z.2.1 0) o0 h0)] sz)) 0 0 (va_A [(h0, ce32 (z.2.1 0) o0 h0)] sz) := by
  refine Met.ofW (cc := cX2_isSource) (maxL := 1) (ret := (some .boolean)) (by decide) rfl ?_
  intro p e s m args below meth c s₁ B hml hv
  obtain ⟨rfl, hsz, hP, hK, hD0, hX, hT⟩ := hv
  have hx := B.exec
  have hb := B.bytes
  have hr := B.returns
  have hts0 := atoms_spec (ws := .code yX2_isSource cX2_isSource 1 (some .boolean) :: wsL_law) B.pre
  have hts := xTail hts0
  have hown : s.vm.findClass RX2 = some m.cls := xown B.named rfl
  have hlocks := B.notSynchronized
  subst hsz
  have hD := hD0.self (sz := s.heap.size)
  generalize hAe : va_A [(h0, ce32 (z.2.1 0) o0 h0)] s.heap.size = A at hD hX ⊢
  have hA : ∀ q : Nat, s.heap.size ≤ q → A q := fun q h => by rw [← hAe]; exact Or.inr h
  have hS : va_S A s.heap s.heap [] := va_S.rf
  have hG : s.heap.size + 0 ≤ s.heap.size := Nat.le_refl _
  have hl := lv_entry ([.ref h0]) (n := 1) (Nat.le_of_ble_eq_true rfl)
  rw [lg_entry_eq]
  generalize (lg_sl ([.ref h0]) ++ List.replicate (1 - (lg_sl ([.ref h0])).length) Slot.unset).toArray = ls at hl ⊢
  have hl : lv_has ls 1 [(0, .ref h0)] := hl
  refine lv_aload_n hx hb dX2_isSource_0 rfl (lv_at hl 0 rfl) ?_
  refine va_get (D := (dC, dI)) (ci := 3) (v := .ref (z.2.1 0)) (C := RX2) (T := TX2) (N := 19) hx hb hts in_X2 hown hK hP 0 rfl rfl 1 (by decide) (hts _ q_98) (fun _ h9 => h9) rfl dX2_isSource_1 ?_
  refine va_gets (own := RX2) (ref := "Deltacycle$NetKind") hx hb (hX.2.1.1 0 (by decide)).1 hS hown (hts _ q_130) (fun _ h9 => h9) dX2_isSource_4 ?_
  refine lv_acmp_eq (rx := (some (z.2.1 0))) (ry := (some (z.2.1 0))) (tgt := 20) hx hb dX2_isSource_7 (by decide) (fun _ => ?_) (fun cz => absurd rfl cz)
  refine lv_iconst (v := 1) hx hb dX2_isSource_20 (by decide) ?_
  refine lv_goto (tgt := 25) hx hb dX2_isSource_21 (by decide) ?_
  exact W.zret (v := 1) (ty := .boolean) hx hb hr rfl (fun t9 ht9 hW9 => ⟨⟨1, (), rfl, rfl, ⟨pq_mk2 hP hD hK [0] [] rfl rfl rfl ht9 hW9, by rw [ht9]; exact Nat.le_trans (Nat.add_le_add_left (Nat.le_of_ble_eq_true rfl) _) hG⟩⟩, hS.F ht9⟩) hS.2.2 dX2_isSource_25

set_option maxHeartbeats 4000000 in
set_option maxRecDepth 100000 in
theorem k18_makeNet (l : Launch) (hl9 : l.stackTraces = false) (dC : Nat → ClassId) (dI : Nat → Nat → Nat) (z : XZ) (h0 h1 h2 : Nat) (o0 o1 : Nat) (sz : Nat) : Met l yX0_makeNet (.code yX0_makeNet cX0_makeNet 3 (some (.object "Deltacycle$Net")) :: wsL_law) ({ frames := 5, cells := 4, slots := 42, locals := 109 }) (va_Pc [.ref h0, .ref (z.2.1 0)] (PC (dC, dI) [(h0, ce7 h1 h2 o0 o1), (h1, ce3 z.1), (h2, ce3 z.1)] [] sz z)) (va_Qr (fun (_ : Unit) => True) (fun (_ : Unit) (ra : Nat) (t : State) => ∃ (n0 n1 n2 n3 : Nat), ∃ (m0 m1 : ClassId), ra = n0 ∧ PG (dC, dI) [(h0, ce7 h1 h2 o0 o1), (h1, ce36 n2), (h2, ce36 n3), (n0, ce32 (z.2.1 0) n1 n0), (n1, ce3 z.1), (n2, ce35 m0 n0), (n3, ce35 m1 n0)] [(m0, .object "java/lang/Object"), (m1, .object "java/lang/Object")] (va_A [(h0, ce7 h1 h2 o0 o1), (h1, ce3 z.1), (h2, ce3 z.1)] sz) sz 4 t) (va_A [(h0, ce7 h1 h2 o0 o1), (h1, ce3 z.1), (h2, ce3 z.1)] sz)) 4 42 (va_A [(h0, ce7 h1 h2 o0 o1), (h1, ce3 z.1), (h2, ce3 z.1)] sz) := by
  refine Met.ofW (cc := cX0_makeNet) (maxL := 3) (ret := (some (.object "Deltacycle$Net"))) (by decide) rfl ?_
  intro p e s m args below meth c s₁ B hml hv
  obtain ⟨rfl, hsz, hP, hK, hD0, hX, hT⟩ := hv
  have hx := B.exec
  have hb := B.bytes
  have hr := B.returns
  have hts0 := atoms_spec (ws := .code yX0_makeNet cX0_makeNet 3 (some (.object "Deltacycle$Net")) :: wsL_law) B.pre
  have hts := xTail hts0
  have hown : s.vm.findClass RX0 = some m.cls := xown B.named rfl
  have hlocks := B.notSynchronized
  subst hsz
  have hD := hD0.self (sz := s.heap.size)
  generalize hAe : va_A [(h0, ce7 h1 h2 o0 o1), (h1, ce3 z.1), (h2, ce3 z.1)] s.heap.size = A at hD hX ⊢
  have hA : ∀ q : Nat, s.heap.size ≤ q → A q := fun q h => by rw [← hAe]; exact Or.inr h
  have hS : va_S A s.heap s.heap [] := va_S.rf
  have hG : s.heap.size + 0 ≤ s.heap.size := Nat.le_refl _
  have hl := lv_entry ([.ref h0, .ref (z.2.1 0)]) (n := 3) (Nat.le_of_ble_eq_true rfl)
  rw [lg_entry_eq]
  generalize (lg_sl ([.ref h0, .ref (z.2.1 0)]) ++ List.replicate (3 - (lg_sl ([.ref h0, .ref (z.2.1 0)])).length) Slot.unset).toArray = ls at hl ⊢
  have hl : lv_has ls 3 [(0, .ref h0), (1, .ref (z.2.1 0))] := hl
  refine xa_new (ci := 3) (fs := [.int 0, .null, .null, .null, .int 0, .int 0, .int 0, .int 0, .int 0, .int 0, .int 0, .int 0, .int 0, .int 0, .int 0, .int 0, .null, .int 0, .int 0]) (C := RX2) (T := TX2) (N := 19) hx hb hts in_X2 tyX2 tyX2_ok hown (hts _ q_89) (hts _ q_90) (hts _ q_91) hK hP hD hS hA rfl nf_X2 (Nat.le_of_ble_eq_true rfl) (Nat.le_of_ble_eq_true rfl) dX0_makeNet_0 (fun a1 H2 hg8 hP hD hS => ?_)
  have hG : s.heap.size + 1 ≤ H2.size := by rw [hg8]; exact Nat.succ_le_succ hG
  have hP : va_P (dC, dI) xCl [(h0, ce7 h1 h2 o0 o1), (h1, ce3 z.1), (h2, ce3 z.1), (a1, ce25)] H2 := hP
  have hD := vd_as hP hD rfl
  refine W.widen (k := 1) (n := 19) (by decide) (by decide) ?_
  refine lv_dup hx hb dX0_makeNet_3 rfl ?_
  refine lv_aload_n hx hb dX0_makeNet_4 rfl (lv_at hl 0 rfl) ?_
  refine va_get (D := (dC, dI)) (ci := 2) (v := .ref h1) (C := RX0) (T := TX0) (N := 4) hx hb hts in_X0 hown hK hP 0 rfl rfl 0 (by decide) (hts _ q_28) (fun _ h9 => h9) rfl dX0_makeNet_5 ?_
  have hM5 := k9_size l hl9 dC dI z h1 H2.size 0 0
  obtain ⟨hF3, hC6⟩ := pc_M hM5 hP hD hK hS hX hT hA [1] [] rfl rfl rfl
  refine va_calli (va_runV (As := []) (rest := [.ref a1, .ref a1]) ⟨hx, hb, hml, hown, hts⟩ hM5 (cwV 0 hts (gV q_92 q_77 q_78 q_12 q_75) rfl rfl rfl hV_Jx4a65c_size_8abf5 ⟨Nat.le_of_ble_eq_true rfl, Nat.le_of_ble_eq_true rfl⟩) ⟨pc_blind, va_recv hK hP (ci := 0) (q := (RJx4a65c, TJx4a65c, 3)) (q0 := 1) rfl rfl, fun U hU hW => ⟨rfl, hC6 U hU hW⟩⟩ rfl rfl hl.1 rfl (lv_room (Nat.le_of_ble_eq_true rfl)) dX0_makeNet_8 ⟨(Nat.le_of_ble_eq_true rfl), (Nat.le_of_ble_eq_true rfl)⟩) hS (fun q9 _ h9 => hF3 q9 h9) hF3 (fun r8 u7 t7 H7 L7 ht7 hvm7 hw7 hB7 hz7 hk7 hS => ?_)
  have hP := pq_keep hP hD [1] rfl hk7 hB7.1 ht7
  have hG : s.heap.size + 1 ≤ H7.size := Nat.le_trans hG hz7
  refine W.eq (g2 := F0 m 11 ls [.int 0, .ref a1, .ref a1]) (by rw [hw7]) ?_
  refine lv_aload_n hx hb dX0_makeNet_11 rfl (lv_at hl 1 rfl) ?_
  have hM11 := k12_init l hl9 dC dI z a1 H7.size
  obtain ⟨hF9, hC12⟩ := pc_M hM11 hP hD hK hS hX hT hA [3] [] rfl rfl rfl
  refine va_callv (va_runI (As := [.int 0, .ref (z.2.1 0)]) (rest := [.ref a1]) ⟨hx, hb, hml, hown, hts⟩ hM11 (cwI 2 hts (gIL q_104) rfl rfl rfl (hts _ q_91) (hts _ q_105) (hts _ q_106) rfl hS_X2_init ⟨Nat.le_of_ble_eq_true rfl, Nat.le_of_ble_eq_true rfl⟩) ⟨pc_blind, fun U hU hW => ⟨rfl, hC12 U hU hW⟩⟩ rfl rfl hl.1 rfl (lv_room (Nat.le_of_ble_eq_true rfl)) dX0_makeNet_12 ⟨(Nat.le_of_ble_eq_true rfl), (Nat.le_of_ble_eq_true rfl)⟩) hS (fun q9 _ h9 => hF9 q9 h9) hF9 (fun u13 t13 H13 L13 ht13 hvm13 hw13 hB13 hz13 hk13 hS => ?_)
  obtain ⟨a15, hB13⟩ := hB13
  obtain ⟨hP, hD, hK⟩ := pq_jn (wz := [(h0, ce7 h1 h2 o0 o1), (h1, ce3 z.1), (h2, ce3 z.1), (a1, ce32 (z.2.1 0) a15 a1), (a15, ce3 z.1)]) (tz := []) hP hD hK [3] [] rfl hk13 hF9 hB13.1 ht13 hvm13 rfl rfl
  have hG : s.heap.size + 2 ≤ H13.size := va_gr (g := 1) (g1 := 1) hG (by rw [← ht13]; exact hB13.2)
  refine W.widen (k := 2) (n := 22) (by decide) (by decide) ?_
  refine lv_astore_n (lv' := [(2, .ref a1), (0, .ref h0), (1, .ref (z.2.1 0))]) hx hb dX0_makeNet_15 rfl hl (by decide) rfl (fun ls hl => ?_)
  refine lv_aload_n hx hb dX0_makeNet_16 rfl (lv_at hl 1 rfl) ?_
  refine va_get (D := (dC, dI)) (ci := 2) (v := .ref h1) (C := RX0) (T := TX0) (N := 4) hx hb hts in_X0 hown hK hP 0 rfl rfl 0 (by decide) (hts _ q_28) (fun _ h9 => h9) rfl dX0_makeNet_17 ?_
  refine lv_aload_n hx hb dX0_makeNet_20 rfl (lv_at hl 0 rfl) ?_
  have hM18 := k16_add l hl9 dC dI z h1 a1 a15 H13.size
  obtain ⟨hF16, hC19⟩ := pc_M hM18 hP hD hK hS hX hT hA [1, 3] [] rfl rfl rfl
  refine va_calli (va_runV (As := [.ref a1]) (rest := []) ⟨hx, hb, hml, hown, hts⟩ hM18 (cwV 1 hts (gV q_127 q_128 q_129 q_12 q_126) rfl rfl rfl hV_Jx4a65c_add_9ea2d ⟨Nat.le_of_ble_eq_true rfl, Nat.le_of_ble_eq_true rfl⟩) ⟨pc_blind, va_recv hK hP (ci := 0) (q := (RJx4a65c, TJx4a65c, 3)) (q0 := 1) rfl rfl, fun U hU hW => ⟨rfl, hC19 U hU hW⟩⟩ rfl rfl hl.1 rfl (lv_room (Nat.le_of_ble_eq_true rfl)) dX0_makeNet_21 ⟨(Nat.le_of_ble_eq_true rfl), (Nat.le_of_ble_eq_true rfl)⟩) hS (fun q9 _ h9 => hF16 q9 h9) hF16 (fun r21 u20 t20 H20 L20 ht20 hvm20 hw20 hB20 hz20 hk20 hS => ?_)
  obtain ⟨a22, k23, hB20⟩ := hB20
  obtain ⟨hP, hD, hK⟩ := pq_jn (wz := [(h0, ce7 h1 h2 o0 o1), (h2, ce3 z.1), (a15, ce3 z.1), (h1, ce36 a22), (a1, ce32 (z.2.1 0) a15 a1), (a22, ce35 k23 a1)]) (tz := [(k23, .object "java/lang/Object")]) hP hD hK [1, 3] [] rfl hk20 hF16 hB20.1 ht20 hvm20 rfl rfl
  have hG : s.heap.size + 3 ≤ H20.size := va_gr (g := 2) (g1 := 1) hG (by rw [← ht20]; exact hB20.2)
  refine W.eq (g2 := F0 m 24 ls [.int 1]) (by rw [hw20]) ?_
  refine W.widen (k := 3) (n := 32) (by decide) (by decide) ?_
  refine lv_pop hx hb dX0_makeNet_24 rfl ?_
  refine lv_aload_n hx hb dX0_makeNet_25 rfl (lv_at hl 0 rfl) ?_
  have hM26 := k17_isSource l hl9 dC dI z a1 a15 H20.size
  obtain ⟨hF24, hC27⟩ := pc_M hM26 hP hD hK hS hX hT hA [4] [] rfl rfl rfl
  refine va_calli (va_runV (As := []) (rest := []) ⟨hx, hb, hml, hown, hts⟩ hM26 (cwV 0 hts (gV q_132 q_133 q_134 q_91 q_131) rfl rfl rfl hV_X2_isSource ⟨Nat.le_of_ble_eq_true rfl, Nat.le_of_ble_eq_true rfl⟩) ⟨pc_blind, va_recv hK hP (ci := 3) (q := (RX2, TX2, 19)) (q0 := 4) rfl rfl, fun U hU hW => ⟨rfl, hC27 U hU hW⟩⟩ rfl rfl hl.1 rfl (lv_room (Nat.le_of_ble_eq_true rfl)) dX0_makeNet_26 ⟨(Nat.le_of_ble_eq_true rfl), (Nat.le_of_ble_eq_true rfl)⟩) hS (fun q9 _ h9 => hF24 q9 h9) hF24 (fun r29 u28 t28 H28 L28 ht28 hvm28 hw28 hB28 hz28 hk28 hS => ?_)
  have hP := pq_keep hP hD [4] rfl hk28 hB28.1 ht28
  have hG : s.heap.size + 3 ≤ H28.size := Nat.le_trans hG hz28
  refine W.eq (g2 := F0 m 29 ls [.int 1]) (by rw [hw28]) ?_
  refine lv_if_eq (tgt := 41) hx hb dX0_makeNet_29 (by decide) (fun cz => absurd cz (by decide)) (fun _ => ?_)
  refine lv_aload_n hx hb dX0_makeNet_32 rfl (lv_at hl 1 rfl) ?_
  refine va_get (D := (dC, dI)) (ci := 2) (v := .ref h2) (C := RX0) (T := TX0) (N := 4) hx hb hts in_X0 hown hK hP 0 rfl rfl 1 (by decide) (hts _ q_29) (fun _ h9 => h9) rfl dX0_makeNet_33 ?_
  refine lv_aload_n hx hb dX0_makeNet_36 rfl (lv_at hl 0 rfl) ?_
  have hM32 := k16_add l hl9 dC dI z h2 a1 a15 H28.size
  obtain ⟨hF30, hC33⟩ := pc_M hM32 hP hD hK hS hX hT hA [1, 4] [] rfl rfl rfl
  refine va_calli (va_runV (As := [.ref a1]) (rest := []) ⟨hx, hb, hml, hown, hts⟩ hM32 (cwV 1 hts (gV q_127 q_128 q_129 q_12 q_126) rfl rfl rfl hV_Jx4a65c_add_9ea2d ⟨Nat.le_of_ble_eq_true rfl, Nat.le_of_ble_eq_true rfl⟩) ⟨pc_blind, va_recv hK hP (ci := 0) (q := (RJx4a65c, TJx4a65c, 3)) (q0 := 1) rfl rfl, fun U hU hW => ⟨rfl, hC33 U hU hW⟩⟩ rfl rfl hl.1 rfl (lv_room (Nat.le_of_ble_eq_true rfl)) dX0_makeNet_37 ⟨(Nat.le_of_ble_eq_true rfl), (Nat.le_of_ble_eq_true rfl)⟩) hS (fun q9 _ h9 => hF30 q9 h9) hF30 (fun r35 u34 t34 H34 L34 ht34 hvm34 hw34 hB34 hz34 hk34 hS => ?_)
  obtain ⟨a36, k37, hB34⟩ := hB34
  obtain ⟨hP, hD, hK⟩ := pq_jn (wz := [(h0, ce7 h1 h2 o0 o1), (a15, ce3 z.1), (h1, ce36 a22), (a22, ce35 k23 a1), (h2, ce36 a36), (a1, ce32 (z.2.1 0) a15 a1), (a36, ce35 k37 a1)]) (tz := [(k23, .object "java/lang/Object"), (k37, .object "java/lang/Object")]) hP hD hK [1, 4] [0] rfl hk34 hF30 hB34.1 ht34 hvm34 rfl rfl
  have hG : s.heap.size + 4 ≤ H34.size := va_gr (g := 3) (g1 := 1) hG (by rw [← ht34]; exact hB34.2)
  refine W.eq (g2 := F0 m 40 ls [.int 1]) (by rw [hw34]) ?_
  refine W.widen (k := 4) (n := 42) (by decide) (by decide) ?_
  refine lv_pop hx hb dX0_makeNet_40 rfl ?_
  refine lv_aload_n hx hb dX0_makeNet_41 rfl (lv_at hl 0 rfl) ?_
  exact W.aret (v := .ref a1) hx hb hr (by first | exact Or.inl ⟨_, rfl⟩ | exact Or.inr ⟨_, rfl⟩) (Or.inr ⟨_, rfl⟩) (fun t9 ht9 hW9 => ⟨⟨(), a1, rfl, trivial, ⟨a1, a15, a22, a36, k23, k37, rfl, ⟨pq_mk2 hP hD hK [0, 2, 4, 5, 1, 3, 6] [0, 1] rfl rfl rfl ht9 hW9, by rw [ht9]; exact Nat.le_trans (Nat.add_le_add_left (Nat.le_of_ble_eq_true rfl) _) hG⟩⟩⟩, hS.F ht9⟩) hS.2.2 dX0_makeNet_42

set_option maxHeartbeats 4000000 in
set_option maxRecDepth 100000 in
theorem k19_clear (l : Launch) (hl9 : l.stackTraces = false) (dC : Nat → ClassId) (dI : Nat → Nat → Nat) (z : XZ) (h0 : Nat) (sz : Nat) : Met l yJx4a65c_clear_da8c8 (.code yJx4a65c_clear_da8c8 cJx4a65c_clear_da8c8 4 none :: wsL_law) ({ frames := 0, cells := 0, slots := 0, locals := 0 }) (va_Pc [.ref h0] (PC (dC, dI) [(h0, ce3 z.1)] [] sz z)) (va_Qv (fun (_ : Unit) => True) (fun (_ : Unit) (t : State) => PG (dC, dI) [(h0, ce33 z.1)] [] (va_A [(h0, ce3 z.1)] sz) sz 0 t) (va_A [(h0, ce3 z.1)] sz)) 0 0 (va_A [(h0, ce3 z.1)] sz) := by
  refine Met.ofW (cc := cJx4a65c_clear_da8c8) (maxL := 4) (ret := none) (by decide) rfl ?_
  intro p e s m args below meth c s₁ B hml hv
  obtain ⟨rfl, hsz, hP, hK, hD0, hX, hT⟩ := hv
  have hx := B.exec
  have hb := B.bytes
  have hr := B.returns
  have hts0 := atoms_spec (ws := .code yJx4a65c_clear_da8c8 cJx4a65c_clear_da8c8 4 none :: wsL_law) B.pre
  have hts := xTail hts0
  have hown : s.vm.findClass RJx4a65c = some m.cls := xown B.named rfl
  have hlocks := B.notSynchronized
  subst hsz
  have hD := hD0.self (sz := s.heap.size)
  generalize hAe : va_A [(h0, ce3 z.1)] s.heap.size = A at hD hX ⊢
  have hA : ∀ q : Nat, s.heap.size ≤ q → A q := fun q h => by rw [← hAe]; exact Or.inr h
  have hS : va_S A s.heap s.heap [] := va_S.rf
  have hG : s.heap.size + 0 ≤ s.heap.size := Nat.le_refl _
  have hl := lv_entry ([.ref h0]) (n := 4) (Nat.le_of_ble_eq_true rfl)
  rw [lg_entry_eq]
  generalize (lg_sl ([.ref h0]) ++ List.replicate (4 - (lg_sl ([.ref h0])).length) Slot.unset).toArray = ls at hl ⊢
  have hl : lv_has ls 4 [(0, .ref h0)] := hl
  refine lv_aload_n hx hb dJx4a65c_clear_da8c8_0 rfl (lv_at hl 0 rfl) ?_
  refine lv_dup hx hb dJx4a65c_clear_da8c8_1 rfl ?_
  refine va_get (D := (dC, dI)) (ci := 0) (v := .int 0) (C := RJx4a65c) (T := TJx4a65c) (N := 3) hx hb hts in_Jx4a65c hown hK hP 0 rfl rfl 0 (by decide) (hts _ q_108) (u_same (hts _ q_107)) rfl dJx4a65c_clear_da8c8_2 ?_
  refine lv_iconst (v := 1) hx hb dJx4a65c_clear_da8c8_5 (by decide) ?_
  refine lv_iadd hx hb dJx4a65c_clear_da8c8_6 ?_
  refine lv_topi (fun y1 ey1 => ?_)
  obtain rfl : y1 = 1 := ey1.trans (by decide)
  refine va_put (D := (dC, dI)) (ci := 0) (v := .int 1) (ty := .int) (C := RJx4a65c) (T := TJx4a65c) (N := 3) hx hb hts in_Jx4a65c tyJx4a65c tyJx4a65c_ok nmJx4a65c hown hK hP hD (va_Sre hS) 0 rfl rfl 0 (by decide) (hts _ q_108) (u_same (hts _ q_107)) rfl (by decide +kernel) rfl rfl (Nat.le_of_ble_eq_true rfl) dJx4a65c_clear_da8c8_7 (fun H2 _ hP hD hS' => ?_)
  have hG : s.heap.size + 0 ≤ H2.size := Nat.le_trans hG hS'.1
  have hS := va_Str hS hS'
  have hP : va_P (dC, dI) xCl [(h0, ce33 z.1)] H2 := hP
  have hD := vd_as hP hD rfl
  refine lv_aload_n hx hb dJx4a65c_clear_da8c8_10 rfl (lv_at hl 0 rfl) ?_
  refine va_get (D := (dC, dI)) (ci := 0) (v := .ref z.1) (C := RJx4a65c) (T := TJx4a65c) (N := 3) hx hb hts in_Jx4a65c hown hK hP 0 rfl rfl 1 (by decide) (hts _ q_24) (fun _ h9 => h9) rfl dJx4a65c_clear_da8c8_11 ?_
  refine lv_astore_n (lv' := [(1, .ref z.1), (0, .ref h0)]) hx hb dJx4a65c_clear_da8c8_14 rfl hl (by decide) rfl (fun ls hl => ?_)
  refine lv_aload_n hx hb dJx4a65c_clear_da8c8_15 rfl (lv_at hl 1 rfl) ?_
  refine va_get (D := (dC, dI)) (ci := 0) (v := .int 0) (C := RJx4a65c) (T := TJx4a65c) (N := 3) hx hb hts in_Jx4a65c hown hK hP 0 rfl rfl 2 (by decide) (hts _ q_74) (fun _ h9 => h9) rfl dJx4a65c_clear_da8c8_16 ?_
  refine lv_istore_n (lv' := [(2, .int 0), (1, .ref z.1), (0, .ref h0)]) hx hb dJx4a65c_clear_da8c8_19 rfl hl (by decide) rfl (fun ls hl => ?_)
  refine lv_aload_n hx hb dJx4a65c_clear_da8c8_20 rfl (lv_at hl 2 rfl) ?_
  refine lv_iconst (v := 0) hx hb dJx4a65c_clear_da8c8_21 (by decide) ?_
  refine lv_dup_x1 hx hb dJx4a65c_clear_da8c8_22 rfl rfl ?_
  refine va_put (D := (dC, dI)) (ci := 0) (v := .int 0) (ty := .int) (C := RJx4a65c) (T := TJx4a65c) (N := 3) hx hb hts in_Jx4a65c tyJx4a65c tyJx4a65c_ok nmJx4a65c hown hK hP hD (va_Sre hS) 0 rfl rfl 2 (by decide) (hts _ q_74) (fun _ h9 => h9) rfl (by decide +kernel) rfl rfl (Nat.le_of_ble_eq_true rfl) dJx4a65c_clear_da8c8_23 (fun H3 _ hP hD hS' => ?_)
  have hG : s.heap.size + 0 ≤ H3.size := Nat.le_trans hG hS'.1
  have hS := va_Str hS hS'
  have hP : va_P (dC, dI) xCl [(h0, ce33 z.1)] H3 := hP
  have hD := vd_as hP hD rfl
  refine lv_istore_n (lv' := [(3, .int 0), (2, .int 0), (1, .ref z.1), (0, .ref h0)]) hx hb dJx4a65c_clear_da8c8_26 rfl hl (by decide) rfl (fun ls hl => ?_)
  refine lv_iload_n hx hb dJx4a65c_clear_da8c8_27 rfl (lv_at hl 0 rfl) ?_
  refine lv_iload_n hx hb dJx4a65c_clear_da8c8_28 rfl (lv_at hl 1 rfl) ?_
  refine lv_icmp_ge (tgt := 42) hx hb dJx4a65c_clear_da8c8_29 (by decide) (fun _ => ?_) (fun cz => absurd (by decide) cz)
  exact W.vret hx hb hr (fun t9 ht9 hW9 => ⟨⟨(), rfl, trivial, ⟨pq_mk2 hP hD hK [0] [] rfl rfl rfl ht9 hW9, by rw [ht9]; exact Nat.le_trans (Nat.add_le_add_left (Nat.le_of_ble_eq_true rfl) _) hG⟩⟩, hS.F ht9⟩) hS.2.2 dJx4a65c_clear_da8c8_42

set_option maxHeartbeats 4000000 in
set_option maxRecDepth 100000 in
theorem k20_size (l : Launch) (hl9 : l.stackTraces = false) (dC : Nat → ClassId) (dI : Nat → Nat → Nat) (z : XZ) (h0 : Nat) (o0 : Nat) (sz : Nat) (p0 p1 : Int32) : Met l yJx4a65c_size_8abf5 (.code yJx4a65c_size_8abf5 cJx4a65c_size_8abf5 1 (some .int) :: wsL_law) ({ frames := 0, cells := 0, slots := 0, locals := 0 }) (va_Pc [.ref h0] (PC (dC, dI) [(h0, ce24 p0 o0 p1)] [] sz z)) (va_Qi (fun (r : Int32) (_ : Unit) => r = p1) (fun (_ : Unit) (t : State) => PG (dC, dI) [(h0, ce24 p0 o0 p1)] [] (va_A [(h0, ce24 p0 o0 p1)] sz) sz 0 t) (va_A [(h0, ce24 p0 o0 p1)] sz)) 0 0 (va_A [(h0, ce24 p0 o0 p1)] sz) := by
  refine Met.ofW (cc := cJx4a65c_size_8abf5) (maxL := 1) (ret := (some .int)) (by decide) rfl ?_
  intro p e s m args below meth c s₁ B hml hv
  obtain ⟨rfl, hsz, hP, hK, hD0, hX, hT⟩ := hv
  have hx := B.exec
  have hb := B.bytes
  have hr := B.returns
  have hts0 := atoms_spec (ws := .code yJx4a65c_size_8abf5 cJx4a65c_size_8abf5 1 (some .int) :: wsL_law) B.pre
  have hts := xTail hts0
  have hown : s.vm.findClass RJx4a65c = some m.cls := xown B.named rfl
  have hlocks := B.notSynchronized
  subst hsz
  have hD := hD0.self (sz := s.heap.size)
  generalize hAe : va_A [(h0, ce24 p0 o0 p1)] s.heap.size = A at hD hX ⊢
  have hA : ∀ q : Nat, s.heap.size ≤ q → A q := fun q h => by rw [← hAe]; exact Or.inr h
  have hS : va_S A s.heap s.heap [] := va_S.rf
  have hG : s.heap.size + 0 ≤ s.heap.size := Nat.le_refl _
  have hl := lv_entry ([.ref h0]) (n := 1) (Nat.le_of_ble_eq_true rfl)
  rw [lg_entry_eq]
  generalize (lg_sl ([.ref h0]) ++ List.replicate (1 - (lg_sl ([.ref h0])).length) Slot.unset).toArray = ls at hl ⊢
  have hl : lv_has ls 1 [(0, .ref h0)] := hl
  refine lv_aload_n hx hb dJx4a65c_size_8abf5_0 rfl (lv_at hl 0 rfl) ?_
  refine va_get (D := (dC, dI)) (ci := 0) (v := .int p1) (C := RJx4a65c) (T := TJx4a65c) (N := 3) hx hb hts in_Jx4a65c hown hK hP 0 rfl rfl 2 (by decide) (hts _ q_74) (fun _ h9 => h9) rfl dJx4a65c_size_8abf5_1 ?_
  exact W.iret (v := p1) hx hb hr (fun t9 ht9 hW9 => ⟨⟨p1, (), rfl, rfl, ⟨pq_mk2 hP hD hK [0] [] rfl rfl rfl ht9 hW9, by rw [ht9]; exact Nat.le_trans (Nat.add_le_add_left (Nat.le_of_ble_eq_true rfl) _) hG⟩⟩, hS.F ht9⟩) hS.2.2 dJx4a65c_size_8abf5_4

set_option maxHeartbeats 4000000 in
set_option maxRecDepth 100000 in
theorem k21_checkIndex (l : Launch) (hl9 : l.stackTraces = false) (dC : Nat → ClassId) (dI : Nat → Nat → Nat) (z : XZ) (sz : Nat) : Met l yJ3_checkIndex_8e157 (.code yJ3_checkIndex_8e157 cJ3_checkIndex_8e157 3 (some .int) :: wsL_law) ({ frames := 0, cells := 0, slots := 0, locals := 0 }) (va_Pc [.int 0, .int 1, .null] (PC (dC, dI) [] [] sz z)) (va_Qi (fun (r : Int32) (_ : Unit) => r = 0) (fun (_ : Unit) (t : State) => PG (dC, dI) [] [] (va_A [] sz) sz 0 t) (va_A [] sz)) 0 0 (va_A [] sz) := by
  refine Met.ofW (cc := cJ3_checkIndex_8e157) (maxL := 3) (ret := (some .int)) (by decide) rfl ?_
  intro p e s m args below meth c s₁ B hml hv
  obtain ⟨rfl, hsz, hP, hK, hD0, hX, hT⟩ := hv
  have hx := B.exec
  have hb := B.bytes
  have hr := B.returns
  have hts0 := atoms_spec (ws := .code yJ3_checkIndex_8e157 cJ3_checkIndex_8e157 3 (some .int) :: wsL_law) B.pre
  have hts := xTail hts0
  have hown : s.vm.findClass RJ3 = some m.cls := xown B.named rfl
  have hlocks := B.notSynchronized
  subst hsz
  have hD := hD0.self (sz := s.heap.size)
  generalize hAe : va_A [] s.heap.size = A at hD hX ⊢
  have hA : ∀ q : Nat, s.heap.size ≤ q → A q := fun q h => by rw [← hAe]; exact Or.inr h
  have hS : va_S A s.heap s.heap [] := va_S.rf
  have hG : s.heap.size + 0 ≤ s.heap.size := Nat.le_refl _
  have hl := lv_entry ([.int 0, .int 1, .null]) (n := 3) (Nat.le_of_ble_eq_true rfl)
  rw [lg_entry_eq]
  generalize (lg_sl ([.int 0, .int 1, .null]) ++ List.replicate (3 - (lg_sl ([.int 0, .int 1, .null])).length) Slot.unset).toArray = ls at hl ⊢
  have hl : lv_has ls 3 [(0, .int 0), (1, .int 1), (2, .null)] := hl
  refine lv_iload_n hx hb dJ3_checkIndex_8e157_0 rfl (lv_at hl 0 rfl) ?_
  refine lv_if_lt (tgt := 9) hx hb dJ3_checkIndex_8e157_1 (by decide) (fun cz => absurd cz (by decide)) (fun _ => ?_)
  refine lv_iload_n hx hb dJ3_checkIndex_8e157_4 rfl (lv_at hl 0 rfl) ?_
  refine lv_iload_n hx hb dJ3_checkIndex_8e157_5 rfl (lv_at hl 1 rfl) ?_
  refine lv_icmp_lt (tgt := 16) hx hb dJ3_checkIndex_8e157_6 (by decide) (fun _ => ?_) (fun cz => absurd (by decide) cz)
  refine lv_iload_n hx hb dJ3_checkIndex_8e157_16 rfl (lv_at hl 0 rfl) ?_
  exact W.iret (v := 0) hx hb hr (fun t9 ht9 hW9 => ⟨⟨0, (), rfl, rfl, ⟨pq_mk2 hP hD hK [] [] rfl rfl rfl ht9 hW9, by rw [ht9]; exact Nat.le_trans (Nat.add_le_add_left (Nat.le_of_ble_eq_true rfl) _) hG⟩⟩, hS.F ht9⟩) hS.2.2 dJ3_checkIndex_8e157_17

set_option maxHeartbeats 4000000 in
set_option maxRecDepth 100000 in
theorem k22_checkIndex (l : Launch) (hl9 : l.stackTraces = false) (dC : Nat → ClassId) (dI : Nat → Nat → Nat) (z : XZ) (sz : Nat) : Met l yJ15_checkIndex_7cf53 (.code yJ15_checkIndex_7cf53 cJ15_checkIndex_7cf53 2 (some .int) :: wsL_law) ({ frames := 1, cells := 0, slots := 0, locals := 22 }) (va_Pc [.int 0, .int 1] (PC (dC, dI) [] [] sz z)) (va_Qi (fun (r : Int32) (_ : Unit) => r = 0) (fun (_ : Unit) (t : State) => PG (dC, dI) [] [] (va_A [] sz) sz 0 t) (va_A [] sz)) 0 0 (va_A [] sz) := by
  refine Met.ofW (cc := cJ15_checkIndex_7cf53) (maxL := 2) (ret := (some .int)) (by decide) rfl ?_
  intro p e s m args below meth c s₁ B hml hv
  obtain ⟨rfl, hsz, hP, hK, hD0, hX, hT⟩ := hv
  have hx := B.exec
  have hb := B.bytes
  have hr := B.returns
  have hts0 := atoms_spec (ws := .code yJ15_checkIndex_7cf53 cJ15_checkIndex_7cf53 2 (some .int) :: wsL_law) B.pre
  have hts := xTail hts0
  have hown : s.vm.findClass RJ15 = some m.cls := xown B.named rfl
  have hlocks := B.notSynchronized
  subst hsz
  have hD := hD0.self (sz := s.heap.size)
  generalize hAe : va_A [] s.heap.size = A at hD hX ⊢
  have hA : ∀ q : Nat, s.heap.size ≤ q → A q := fun q h => by rw [← hAe]; exact Or.inr h
  have hS : va_S A s.heap s.heap [] := va_S.rf
  have hG : s.heap.size + 0 ≤ s.heap.size := Nat.le_refl _
  have hl := lv_entry ([.int 0, .int 1]) (n := 2) (Nat.le_of_ble_eq_true rfl)
  rw [lg_entry_eq]
  generalize (lg_sl ([.int 0, .int 1]) ++ List.replicate (2 - (lg_sl ([.int 0, .int 1])).length) Slot.unset).toArray = ls at hl ⊢
  have hl : lv_has ls 2 [(0, .int 0), (1, .int 1)] := hl
  refine lv_iload_n hx hb dJ15_checkIndex_7cf53_0 rfl (lv_at hl 0 rfl) ?_
  refine lv_iload_n hx hb dJ15_checkIndex_7cf53_1 rfl (lv_at hl 1 rfl) ?_
  refine lv_null hx hb dJ15_checkIndex_7cf53_2 ?_
  have hM3 := k21_checkIndex l hl9 dC dI z s.heap.size
  obtain ⟨hF1, hC4⟩ := pc_M hM3 hP hD hK hS hX hT hA [] [] rfl rfl rfl
  refine va_calli (va_runS (As := [.int 0, .int 1, .null]) (rest := []) ⟨hx, hb, hml, hown, hts⟩ hM3 (va_cwS 3 hts (gS q_144 q_145 q_146 q_143) rfl rfl rfl hS_J3_checkIndex_8e157 ⟨Nat.le_of_ble_eq_true rfl, Nat.le_of_ble_eq_true rfl⟩) ⟨pc_blind, fun U hU hW => ⟨rfl, hC4 U hU hW⟩⟩ rfl rfl hl.1 rfl (lv_room (Nat.le_of_ble_eq_true rfl)) dJ15_checkIndex_7cf53_3 ⟨(Nat.le_of_ble_eq_true rfl), (Nat.le_of_ble_eq_true rfl)⟩) hS (fun q9 _ h9 => hF1 q9 h9) hF1 (fun r6 u5 t5 H5 L5 ht5 hvm5 hw5 hB5 hz5 hk5 hS => ?_)
  have hP := pq_keep hP hD [] rfl hk5 hB5.1 ht5
  have hG : s.heap.size + 0 ≤ H5.size := Nat.le_trans hG hz5
  refine W.eq (g2 := F0 m 6 ls [.int 0]) (by rw [hw5]) ?_
  exact W.iret (v := 0) hx hb hr (fun t9 ht9 hW9 => ⟨⟨0, (), rfl, rfl, ⟨pq_mk2 hP hD hK [] [] rfl rfl rfl ht9 hW9, by rw [ht9]; exact Nat.le_trans (Nat.add_le_add_left (Nat.le_of_ble_eq_true rfl) _) hG⟩⟩, hS.F ht9⟩) hS.2.2 dJ15_checkIndex_7cf53_6

set_option maxHeartbeats 4000000 in
set_option maxRecDepth 100000 in
theorem k23_elementData (l : Launch) (hl9 : l.stackTraces = false) (dC : Nat → ClassId) (dI : Nat → Nat → Nat) (z : XZ) (h0 h1 : Nat) (o0 : Nat) (sz : Nat) (kc0 : ClassId) : Met l yJx4a65c_elementData_915e3 (.code yJx4a65c_elementData_915e3 cJx4a65c_elementData_915e3 2 (some (.object "java/lang/Object")) :: wsL_law) ({ frames := 0, cells := 0, slots := 0, locals := 0 }) (va_Pc [.ref h0, .int 0] (PC (dC, dI) [(h0, ce36 h1), (h1, ce35 kc0 o0)] [(kc0, .object "java/lang/Object")] sz z)) (va_Qr (fun (_ : Unit) => True) (fun (_ : Unit) (ra : Nat) (t : State) => ra = o0 ∧ PG (dC, dI) [(h0, ce36 h1), (h1, ce35 kc0 o0)] [(kc0, .object "java/lang/Object")] (va_A [(h0, ce36 h1), (h1, ce35 kc0 o0)] sz) sz 0 t) (va_A [(h0, ce36 h1), (h1, ce35 kc0 o0)] sz)) 0 0 (va_A [(h0, ce36 h1), (h1, ce35 kc0 o0)] sz) := by
  refine Met.ofW (cc := cJx4a65c_elementData_915e3) (maxL := 2) (ret := (some (.object "java/lang/Object"))) (by decide) rfl ?_
  intro p e s m args below meth c s₁ B hml hv
  obtain ⟨rfl, hsz, hP, hK, hD0, hX, hT⟩ := hv
  have hx := B.exec
  have hb := B.bytes
  have hr := B.returns
  have hts0 := atoms_spec (ws := .code yJx4a65c_elementData_915e3 cJx4a65c_elementData_915e3 2 (some (.object "java/lang/Object")) :: wsL_law) B.pre
  have hts := xTail hts0
  have hown : s.vm.findClass RJx4a65c = some m.cls := xown B.named rfl
  have hlocks := B.notSynchronized
  subst hsz
  have hD := hD0.self (sz := s.heap.size)
  generalize hAe : va_A [(h0, ce36 h1), (h1, ce35 kc0 o0)] s.heap.size = A at hD hX ⊢
  have hA : ∀ q : Nat, s.heap.size ≤ q → A q := fun q h => by rw [← hAe]; exact Or.inr h
  have hS : va_S A s.heap s.heap [] := va_S.rf
  have hG : s.heap.size + 0 ≤ s.heap.size := Nat.le_refl _
  have hl := lv_entry ([.ref h0, .int 0]) (n := 2) (Nat.le_of_ble_eq_true rfl)
  rw [lg_entry_eq]
  generalize (lg_sl ([.ref h0, .int 0]) ++ List.replicate (2 - (lg_sl ([.ref h0, .int 0])).length) Slot.unset).toArray = ls at hl ⊢
  have hl : lv_has ls 2 [(0, .ref h0), (1, .int 0)] := hl
  refine lv_aload_n hx hb dJx4a65c_elementData_915e3_0 rfl (lv_at hl 0 rfl) ?_
  refine va_get (D := (dC, dI)) (ci := 0) (v := .ref h1) (C := RJx4a65c) (T := TJx4a65c) (N := 3) hx hb hts in_Jx4a65c hown hK hP 0 rfl rfl 1 (by decide) (hts _ q_24) (fun _ h9 => h9) rfl dJx4a65c_elementData_915e3_1 ?_
  refine lv_iload_n hx hb dJx4a65c_elementData_915e3_4 rfl (lv_at hl 1 rfl) ?_
  refine va_aldq hx hb hK hP 1 0 rfl rfl (i := 0) (by unfold vp_in; decide) dJx4a65c_elementData_915e3_5 ?_
  refine W.eq (g2 := F0 m 6 ls [.ref o0]) rfl ?_
  exact W.aret (v := .ref o0) hx hb hr (by first | exact Or.inl ⟨_, rfl⟩ | exact Or.inr ⟨_, rfl⟩) (Or.inr ⟨_, rfl⟩) (fun t9 ht9 hW9 => ⟨⟨(), o0, rfl, trivial, ⟨rfl, ⟨pq_mk2 hP hD hK [0, 1] [0] rfl rfl rfl ht9 hW9, by rw [ht9]; exact Nat.le_trans (Nat.add_le_add_left (Nat.le_of_ble_eq_true rfl) _) hG⟩⟩⟩, hS.F ht9⟩) hS.2.2 dJx4a65c_elementData_915e3_6

set_option maxHeartbeats 4000000 in
set_option maxRecDepth 100000 in
theorem k24_get (l : Launch) (hl9 : l.stackTraces = false) (dC : Nat → ClassId) (dI : Nat → Nat → Nat) (z : XZ) (h0 h1 : Nat) (o0 : Nat) (sz : Nat) (kc0 : ClassId) : Met l yJx4a65c_get_915e3 (.code yJx4a65c_get_915e3 cJx4a65c_get_915e3 2 (some (.object "java/lang/Object")) :: wsL_law) ({ frames := 2, cells := 0, slots := 0, locals := 43 }) (va_Pc [.ref h0, .int 0] (PC (dC, dI) [(h0, ce36 h1), (h1, ce35 kc0 o0)] [(kc0, .object "java/lang/Object")] sz z)) (va_Qr (fun (_ : Unit) => True) (fun (_ : Unit) (ra : Nat) (t : State) => ra = o0 ∧ PG (dC, dI) [(h0, ce36 h1), (h1, ce35 kc0 o0)] [(kc0, .object "java/lang/Object")] (va_A [(h0, ce36 h1), (h1, ce35 kc0 o0)] sz) sz 0 t) (va_A [(h0, ce36 h1), (h1, ce35 kc0 o0)] sz)) 0 0 (va_A [(h0, ce36 h1), (h1, ce35 kc0 o0)] sz) := by
  refine Met.ofW (cc := cJx4a65c_get_915e3) (maxL := 2) (ret := (some (.object "java/lang/Object"))) (by decide) rfl ?_
  intro p e s m args below meth c s₁ B hml hv
  obtain ⟨rfl, hsz, hP, hK, hD0, hX, hT⟩ := hv
  have hx := B.exec
  have hb := B.bytes
  have hr := B.returns
  have hts0 := atoms_spec (ws := .code yJx4a65c_get_915e3 cJx4a65c_get_915e3 2 (some (.object "java/lang/Object")) :: wsL_law) B.pre
  have hts := xTail hts0
  have hown : s.vm.findClass RJx4a65c = some m.cls := xown B.named rfl
  have hlocks := B.notSynchronized
  subst hsz
  have hD := hD0.self (sz := s.heap.size)
  generalize hAe : va_A [(h0, ce36 h1), (h1, ce35 kc0 o0)] s.heap.size = A at hD hX ⊢
  have hA : ∀ q : Nat, s.heap.size ≤ q → A q := fun q h => by rw [← hAe]; exact Or.inr h
  have hS : va_S A s.heap s.heap [] := va_S.rf
  have hG : s.heap.size + 0 ≤ s.heap.size := Nat.le_refl _
  have hl := lv_entry ([.ref h0, .int 0]) (n := 2) (Nat.le_of_ble_eq_true rfl)
  rw [lg_entry_eq]
  generalize (lg_sl ([.ref h0, .int 0]) ++ List.replicate (2 - (lg_sl ([.ref h0, .int 0])).length) Slot.unset).toArray = ls at hl ⊢
  have hl : lv_has ls 2 [(0, .ref h0), (1, .int 0)] := hl
  refine lv_iload_n hx hb dJx4a65c_get_915e3_0 rfl (lv_at hl 1 rfl) ?_
  refine lv_aload_n hx hb dJx4a65c_get_915e3_1 rfl (lv_at hl 0 rfl) ?_
  refine va_get (D := (dC, dI)) (ci := 0) (v := .int 1) (C := RJx4a65c) (T := TJx4a65c) (N := 3) hx hb hts in_Jx4a65c hown hK hP 0 rfl rfl 2 (by decide) (hts _ q_74) (fun _ h9 => h9) rfl dJx4a65c_get_915e3_2 ?_
  have hM3 := k22_checkIndex l hl9 dC dI z s.heap.size
  obtain ⟨hF1, hC4⟩ := pc_M hM3 hP hD hK hS hX hT hA [] [] rfl rfl rfl
  refine va_calli (va_runS (As := [.int 0, .int 1]) (rest := []) ⟨hx, hb, hml, hown, hts⟩ hM3 (va_cwS 2 hts (gS q_148 q_149 q_150 q_147) rfl rfl rfl hS_J15_checkIndex_7cf53 ⟨Nat.le_of_ble_eq_true rfl, Nat.le_of_ble_eq_true rfl⟩) ⟨pc_blind, fun U hU hW => ⟨rfl, hC4 U hU hW⟩⟩ rfl rfl hl.1 rfl (lv_room (Nat.le_of_ble_eq_true rfl)) dJx4a65c_get_915e3_5 ⟨(Nat.le_of_ble_eq_true rfl), (Nat.le_of_ble_eq_true rfl)⟩) hS (fun q9 _ h9 => hF1 q9 h9) hF1 (fun r6 u5 t5 H5 L5 ht5 hvm5 hw5 hB5 hz5 hk5 hS => ?_)
  have hP := pq_keep hP hD [] rfl hk5 hB5.1 ht5
  have hG : s.heap.size + 0 ≤ H5.size := Nat.le_trans hG hz5
  refine W.eq (g2 := F0 m 8 ls [.int 0]) (by rw [hw5]) ?_
  refine lv_pop hx hb dJx4a65c_get_915e3_8 rfl ?_
  refine lv_aload_n hx hb dJx4a65c_get_915e3_9 rfl (lv_at hl 0 rfl) ?_
  refine lv_iload_n hx hb dJx4a65c_get_915e3_10 rfl (lv_at hl 1 rfl) ?_
  have hM9 := k23_elementData l hl9 dC dI z h0 h1 o0 H5.size kc0
  obtain ⟨hF7, hC10⟩ := pc_M hM9 hP hD hK hS hX hT hA [0, 1] [0] rfl rfl rfl
  refine va_callr (va_runV (As := [.int 0]) (rest := []) ⟨hx, hb, hml, hown, hts⟩ hM9 (cwV 1 hts (gV q_152 q_153 q_154 q_12 q_151) rfl rfl rfl hV_Jx4a65c_elementData_915e3 ⟨Nat.le_of_ble_eq_true rfl, Nat.le_of_ble_eq_true rfl⟩) ⟨pc_blind, va_recv hK hP (ci := 0) (q := (RJx4a65c, TJx4a65c, 3)) (q0 := 0) rfl rfl, fun U hU hW => ⟨rfl, hC10 U hU hW⟩⟩ rfl rfl hl.1 rfl (lv_room (Nat.le_of_ble_eq_true rfl)) dJx4a65c_get_915e3_11 ⟨(Nat.le_of_ble_eq_true rfl), (Nat.le_of_ble_eq_true rfl)⟩) hS (fun q9 _ h9 => hF7 q9 h9) hF7 (fun u11 r12 t11 H11 L11 ht11 hvm11 hw11 hB11 hz11 hk11 hS => ?_)
  obtain ⟨hr11, hB11⟩ := hB11
  have hP := pq_keep hP hD [0, 1] rfl hk11 hB11.1 ht11
  have hG : s.heap.size + 0 ≤ H11.size := Nat.le_trans hG hz11
  refine W.eq (g2 := F0 m 14 ls [.ref o0]) (by rw [hr11]) ?_
  exact W.aret (v := .ref o0) hx hb hr (by first | exact Or.inl ⟨_, rfl⟩ | exact Or.inr ⟨_, rfl⟩) (Or.inr ⟨_, rfl⟩) (fun t9 ht9 hW9 => ⟨⟨(), o0, rfl, trivial, ⟨rfl, ⟨pq_mk2 hP hD hK [0, 1] [0] rfl rfl rfl ht9 hW9, by rw [ht9]; exact Nat.le_trans (Nat.add_le_add_left (Nat.le_of_ble_eq_true rfl) _) hG⟩⟩⟩, hS.F ht9⟩) hS.2.2 dJx4a65c_get_915e3_14

set_option maxHeartbeats 4000000 in
set_option maxRecDepth 100000 in
theorem k25_readsOnlyPlaced (l : Launch) (hl9 : l.stackTraces = false) (dC : Nat → ClassId) (dI : Nat → Nat → Nat) (z : XZ) (h0 h1 : Nat) (sz : Nat) : Met l yX2_readsOnlyPlaced (.code yX2_readsOnlyPlaced cX2_readsOnlyPlaced 3 (some .boolean) :: wsL_law) ({ frames := 1, cells := 0, slots := 0, locals := 20 }) (va_Pc [.ref h0] (PC (dC, dI) [(h0, ce32 (z.2.1 0) h1 h0), (h1, ce3 z.1)] [] sz z)) (va_Qi (fun (r : Int32) (_ : Unit) => r = 1) (fun (_ : Unit) (t : State) => PG (dC, dI) [(h0, ce32 (z.2.1 0) h1 h0), (h1, ce3 z.1)] [] (va_A [(h0, ce32 (z.2.1 0) h1 h0), (h1, ce3 z.1)] sz) sz 0 t) (va_A [(h0, ce32 (z.2.1 0) h1 h0), (h1, ce3 z.1)] sz)) 0 0 (va_A [(h0, ce32 (z.2.1 0) h1 h0), (h1, ce3 z.1)] sz) := by
  refine Met.ofW (cc := cX2_readsOnlyPlaced) (maxL := 3) (ret := (some .boolean)) (by decide) rfl ?_
  intro p e s m args below meth c s₁ B hml hv
  obtain ⟨rfl, hsz, hP, hK, hD0, hX, hT⟩ := hv
  have hx := B.exec
  have hb := B.bytes
  have hr := B.returns
  have hts0 := atoms_spec (ws := .code yX2_readsOnlyPlaced cX2_readsOnlyPlaced 3 (some .boolean) :: wsL_law) B.pre
  have hts := xTail hts0
  have hown : s.vm.findClass RX2 = some m.cls := xown B.named rfl
  have hlocks := B.notSynchronized
  subst hsz
  have hD := hD0.self (sz := s.heap.size)
  generalize hAe : va_A [(h0, ce32 (z.2.1 0) h1 h0), (h1, ce3 z.1)] s.heap.size = A at hD hX ⊢
  have hA : ∀ q : Nat, s.heap.size ≤ q → A q := fun q h => by rw [← hAe]; exact Or.inr h
  have hS : va_S A s.heap s.heap [] := va_S.rf
  have hG : s.heap.size + 0 ≤ s.heap.size := Nat.le_refl _
  have hl := lv_entry ([.ref h0]) (n := 3) (Nat.le_of_ble_eq_true rfl)
  rw [lg_entry_eq]
  generalize (lg_sl ([.ref h0]) ++ List.replicate (3 - (lg_sl ([.ref h0])).length) Slot.unset).toArray = ls at hl ⊢
  have hl : lv_has ls 3 [(0, .ref h0)] := hl
  refine lv_iconst (v := 0) hx hb dX2_readsOnlyPlaced_0 (by decide) ?_
  refine lv_istore_n (lv' := [(1, .int 0), (0, .ref h0)]) hx hb dX2_readsOnlyPlaced_1 rfl hl (by decide) rfl (fun ls hl => ?_)
  refine lv_iload_n hx hb dX2_readsOnlyPlaced_2 rfl (lv_at hl 0 rfl) ?_
  refine lv_aload_n hx hb dX2_readsOnlyPlaced_3 rfl (lv_at hl 1 rfl) ?_
  refine va_get (D := (dC, dI)) (ci := 3) (v := .ref h1) (C := RX2) (T := TX2) (N := 19) hx hb hts in_X2 hown hK hP 0 rfl rfl 2 (by decide) (hts _ q_96) (fun _ h9 => h9) rfl dX2_readsOnlyPlaced_4 ?_
  have hM3 := k9_size l hl9 dC dI z h1 s.heap.size 0 0
  obtain ⟨hF1, hC4⟩ := pc_M hM3 hP hD hK hS hX hT hA [1] [] rfl rfl rfl
  refine va_calli (va_runV (As := []) (rest := [.int 0]) ⟨hx, hb, hml, hown, hts⟩ hM3 (cwV 0 hts (gV q_160 q_77 q_78 q_12 q_75) rfl rfl rfl hV_Jx4a65c_size_8abf5 ⟨Nat.le_of_ble_eq_true rfl, Nat.le_of_ble_eq_true rfl⟩) ⟨pc_blind, va_recv hK hP (ci := 0) (q := (RJx4a65c, TJx4a65c, 3)) (q0 := 1) rfl rfl, fun U hU hW => ⟨rfl, hC4 U hU hW⟩⟩ rfl rfl hl.1 rfl (lv_room (Nat.le_of_ble_eq_true rfl)) dX2_readsOnlyPlaced_7 ⟨(Nat.le_of_ble_eq_true rfl), (Nat.le_of_ble_eq_true rfl)⟩) hS (fun q9 _ h9 => hF1 q9 h9) hF1 (fun r6 u5 t5 H5 L5 ht5 hvm5 hw5 hB5 hz5 hk5 hS => ?_)
  have hP := pq_keep hP hD [1] rfl hk5 hB5.1 ht5
  have hG : s.heap.size + 0 ≤ H5.size := Nat.le_trans hG hz5
  refine W.eq (g2 := F0 m 10 ls [.int 0, .int 0]) (by rw [hw5]) ?_
  refine lv_icmp_ge (tgt := 53) hx hb dX2_readsOnlyPlaced_10 (by decide) (fun _ => ?_) (fun cz => absurd (by decide) cz)
  refine lv_iconst (v := 1) hx hb dX2_readsOnlyPlaced_53 (by decide) ?_
  exact W.zret (v := 1) (ty := .boolean) hx hb hr rfl (fun t9 ht9 hW9 => ⟨⟨1, (), rfl, rfl, ⟨pq_mk2 hP hD hK [0, 1] [] rfl rfl rfl ht9 hW9, by rw [ht9]; exact Nat.le_trans (Nat.add_le_add_left (Nat.le_of_ble_eq_true rfl) _) hG⟩⟩, hS.F ht9⟩) hS.2.2 dX2_readsOnlyPlaced_54

set_option maxHeartbeats 4000000 in
set_option maxRecDepth 100000 in
theorem k26_grow (l : Launch) (hl9 : l.stackTraces = false) (dC : Nat → ClassId) (dI : Nat → Nat → Nat) (z : XZ) (h0 : Nat) (sz : Nat) : Met l yJx4a65c_grow_92f84 (.code yJx4a65c_grow_92f84 cJx4a65c_grow_92f84 4 (some (.array (.object "java/lang/Object"))) :: wsL_law) ({ frames := 1, cells := 1, slots := 10, locals := 22 }) (va_Pc [.ref h0, .int 1] (PC (dC, dI) [(h0, ce39 z.1)] [] sz z)) (va_Qr (fun (_ : Unit) => True) (fun (_ : Unit) (ra : Nat) (t : State) => ∃ (n0 : Nat), ∃ (m0 : ClassId), ra = n0 ∧ PG (dC, dI) [(h0, ce39 n0), (n0, ce34 m0)] [(m0, .object "java/lang/Object")] (va_A [(h0, ce39 z.1)] sz) sz 1 t) (va_A [(h0, ce39 z.1)] sz)) 1 10 (va_A [(h0, ce39 z.1)] sz) := by
  refine Met.ofW (cc := cJx4a65c_grow_92f84) (maxL := 4) (ret := (some (.array (.object "java/lang/Object")))) (by decide) rfl ?_
  intro p e s m args below meth c s₁ B hml hv
  obtain ⟨rfl, hsz, hP, hK, hD0, hX, hT⟩ := hv
  have hx := B.exec
  have hb := B.bytes
  have hr := B.returns
  have hts0 := atoms_spec (ws := .code yJx4a65c_grow_92f84 cJx4a65c_grow_92f84 4 (some (.array (.object "java/lang/Object"))) :: wsL_law) B.pre
  have hts := xTail hts0
  have hown : s.vm.findClass RJx4a65c = some m.cls := xown B.named rfl
  have hlocks := B.notSynchronized
  subst hsz
  have hD := hD0.self (sz := s.heap.size)
  generalize hAe : va_A [(h0, ce39 z.1)] s.heap.size = A at hD hX ⊢
  have hA : ∀ q : Nat, s.heap.size ≤ q → A q := fun q h => by rw [← hAe]; exact Or.inr h
  have hS : va_S A s.heap s.heap [] := va_S.rf
  have hG : s.heap.size + 0 ≤ s.heap.size := Nat.le_refl _
  have hl := lv_entry ([.ref h0, .int 1]) (n := 4) (Nat.le_of_ble_eq_true rfl)
  rw [lg_entry_eq]
  generalize (lg_sl ([.ref h0, .int 1]) ++ List.replicate (4 - (lg_sl ([.ref h0, .int 1])).length) Slot.unset).toArray = ls at hl ⊢
  have hl : lv_has ls 4 [(0, .ref h0), (1, .int 1)] := hl
  refine lv_aload_n hx hb dJx4a65c_grow_92f84_0 rfl (lv_at hl 0 rfl) ?_
  refine va_get (D := (dC, dI)) (ci := 0) (v := .ref z.1) (C := RJx4a65c) (T := TJx4a65c) (N := 3) hx hb hts in_Jx4a65c hown hK hP 0 rfl rfl 1 (by decide) (hts _ q_24) (fun _ h9 => h9) rfl dJx4a65c_grow_92f84_1 ?_
  refine va_tlen hx hb hX.1.2 hS (v := 0) rfl dJx4a65c_grow_92f84_4 ?_
  refine lv_istore_n (lv' := [(2, .int 0), (0, .ref h0), (1, .int 1)]) hx hb dJx4a65c_grow_92f84_5 rfl hl (by decide) rfl (fun ls hl => ?_)
  refine lv_iload_n hx hb dJx4a65c_grow_92f84_6 rfl (lv_at hl 0 rfl) ?_
  refine lv_if_gt (tgt := 20) hx hb dJx4a65c_grow_92f84_7 (by decide) (fun cz => absurd cz (by decide)) (fun _ => ?_)
  refine lv_aload_n hx hb dJx4a65c_grow_92f84_10 rfl (lv_at hl 1 rfl) ?_
  refine va_get (D := (dC, dI)) (ci := 0) (v := .ref z.1) (C := RJx4a65c) (T := TJx4a65c) (N := 3) hx hb hts in_Jx4a65c hown hK hP 0 rfl rfl 1 (by decide) (hts _ q_24) (fun _ h9 => h9) rfl dJx4a65c_grow_92f84_11 ?_
  refine va_gets (own := RJx4a65c) (ref := "java/util/ArrayList") hx hb hX.1.1 hS hown (hts _ q_23) (fun _ h9 => h9) dJx4a65c_grow_92f84_14 ?_
  refine lv_acmp_eq (rx := (some z.1)) (ry := (some z.1)) (tgt := 45) hx hb dJx4a65c_grow_92f84_17 (by decide) (fun _ => ?_) (fun cz => absurd rfl cz)
  refine lv_aload_n hx hb dJx4a65c_grow_92f84_45 rfl (lv_at hl 1 rfl) ?_
  refine lv_bipush (v := 10) hx hb dJx4a65c_grow_92f84_46 (by decide) ?_
  refine lv_iload_n hx hb dJx4a65c_grow_92f84_48 rfl (lv_at hl 2 rfl) ?_
  refine va_mmax hx hb (hml.trans hl.1.symm) hown (hts _ q_109) (hts _ q_110) (hts _ q_111) (hts _ q_112) (Nat.le_of_ble_eq_true rfl) (Nat.le_of_ble_eq_true rfl) (Nat.le_of_ble_eq_true rfl) (Nat.le_of_ble_eq_true rfl) dJx4a65c_grow_92f84_49 ?_
  refine lv_topi (fun y1 ey1 => ?_)
  obtain rfl : y1 = 10 := ey1.trans (by decide)
  refine xa_newq (C := "java/lang/Object") hx hb hown (hts _ q_113) hT.2.2.2.1 hK hP hD hS hA (n := 10) (N' := 10) (by decide) (by decide) (Nat.le_of_ble_eq_true rfl) (Nat.le_of_ble_eq_true rfl) (Nat.le_of_ble_eq_true rfl) dJx4a65c_grow_92f84_52 (fun a2 k3 H4 hg8 hK hP hD hS => ?_)
  have hG : s.heap.size + 1 ≤ H4.size := by rw [hg8]; exact Nat.succ_le_succ hG
  have hK : va_K (dC, dI) xCl [(k3, .object "java/lang/Object")] s := hK
  have hP : va_P (dC, dI) xCl [(h0, ce39 z.1), (a2, ce34 k3)] H4 := hP
  have hD := vd_as hP hD rfl
  refine lv_dup_x1 hx hb dJx4a65c_grow_92f84_55 rfl rfl ?_
  refine va_put (D := (dC, dI)) (ci := 0) (v := .ref a2) (ty := .array (.object "java/lang/Object")) (C := RJx4a65c) (T := TJx4a65c) (N := 3) hx hb hts in_Jx4a65c tyJx4a65c tyJx4a65c_ok nmJx4a65c hown hK hP hD (va_Sre hS) 0 rfl rfl 1 (by decide) (hts _ q_24) (fun _ h9 => h9) rfl (by decide +kernel) rfl rfl (Nat.le_of_ble_eq_true rfl) dJx4a65c_grow_92f84_56 (fun H5 _ hP hD hS' => ?_)
  have hG : s.heap.size + 1 ≤ H5.size := Nat.le_trans hG hS'.1
  have hS := va_Str hS hS'
  have hP : va_P (dC, dI) xCl [(h0, ce39 a2), (a2, ce34 k3)] H5 := hP
  have hD := vd_as hP hD rfl
  exact W.aret (v := .ref a2) hx hb hr (by first | exact Or.inl ⟨_, rfl⟩ | exact Or.inr ⟨_, rfl⟩) (Or.inr ⟨_, rfl⟩) (fun t9 ht9 hW9 => ⟨⟨(), a2, rfl, trivial, ⟨a2, k3, rfl, ⟨pq_mk2 hP hD hK [0, 1] [0] rfl rfl rfl ht9 hW9, by rw [ht9]; exact Nat.le_trans (Nat.add_le_add_left (Nat.le_of_ble_eq_true rfl) _) hG⟩⟩⟩, hS.F ht9⟩) hS.2.2 dJx4a65c_grow_92f84_59

set_option maxHeartbeats 4000000 in
set_option maxRecDepth 100000 in
theorem k27_grow (l : Launch) (hl9 : l.stackTraces = false) (dC : Nat → ClassId) (dI : Nat → Nat → Nat) (z : XZ) (h0 : Nat) (sz : Nat) : Met l yJx4a65c_grow_d5877 (.code yJx4a65c_grow_d5877 cJx4a65c_grow_d5877 1 (some (.array (.object "java/lang/Object"))) :: wsL_law) ({ frames := 2, cells := 1, slots := 10, locals := 45 }) (va_Pc [.ref h0] (PC (dC, dI) [(h0, ce39 z.1)] [] sz z)) (va_Qr (fun (_ : Unit) => True) (fun (_ : Unit) (ra : Nat) (t : State) => ∃ (n0 : Nat), ∃ (m0 : ClassId), ra = n0 ∧ PG (dC, dI) [(h0, ce39 n0), (n0, ce34 m0)] [(m0, .object "java/lang/Object")] (va_A [(h0, ce39 z.1)] sz) sz 1 t) (va_A [(h0, ce39 z.1)] sz)) 1 10 (va_A [(h0, ce39 z.1)] sz) := by
  refine Met.ofW (cc := cJx4a65c_grow_d5877) (maxL := 1) (ret := (some (.array (.object "java/lang/Object")))) (by decide) rfl ?_
  intro p e s m args below meth c s₁ B hml hv
  obtain ⟨rfl, hsz, hP, hK, hD0, hX, hT⟩ := hv
  have hx := B.exec
  have hb := B.bytes
  have hr := B.returns
  have hts0 := atoms_spec (ws := .code yJx4a65c_grow_d5877 cJx4a65c_grow_d5877 1 (some (.array (.object "java/lang/Object"))) :: wsL_law) B.pre
  have hts := xTail hts0
  have hown : s.vm.findClass RJx4a65c = some m.cls := xown B.named rfl
  have hlocks := B.notSynchronized
  subst hsz
  have hD := hD0.self (sz := s.heap.size)
  generalize hAe : va_A [(h0, ce39 z.1)] s.heap.size = A at hD hX ⊢
  have hA : ∀ q : Nat, s.heap.size ≤ q → A q := fun q h => by rw [← hAe]; exact Or.inr h
  have hS : va_S A s.heap s.heap [] := va_S.rf
  have hG : s.heap.size + 0 ≤ s.heap.size := Nat.le_refl _
  have hl := lv_entry ([.ref h0]) (n := 1) (Nat.le_of_ble_eq_true rfl)
  rw [lg_entry_eq]
  generalize (lg_sl ([.ref h0]) ++ List.replicate (1 - (lg_sl ([.ref h0])).length) Slot.unset).toArray = ls at hl ⊢
  have hl : lv_has ls 1 [(0, .ref h0)] := hl
  refine lv_aload_n hx hb dJx4a65c_grow_d5877_0 rfl (lv_at hl 0 rfl) ?_
  refine lv_aload_n hx hb dJx4a65c_grow_d5877_1 rfl (lv_at hl 0 rfl) ?_
  refine va_get (D := (dC, dI)) (ci := 0) (v := .int 0) (C := RJx4a65c) (T := TJx4a65c) (N := 3) hx hb hts in_Jx4a65c hown hK hP 0 rfl rfl 2 (by decide) (hts _ q_74) (fun _ h9 => h9) rfl dJx4a65c_grow_d5877_2 ?_
  refine lv_iconst (v := 1) hx hb dJx4a65c_grow_d5877_5 (by decide) ?_
  refine lv_iadd hx hb dJx4a65c_grow_d5877_6 ?_
  refine lv_topi (fun y1 ey1 => ?_)
  obtain rfl : y1 = 1 := ey1.trans (by decide)
  have hM4 := k26_grow l hl9 dC dI z h0 s.heap.size
  obtain ⟨hF2, hC5⟩ := pc_M hM4 hP hD hK hS hX hT hA [0] [] rfl rfl rfl
  refine va_callr (va_runV (As := [.int 1]) (rest := []) ⟨hx, hb, hml, hown, hts⟩ hM4 (cwV 1 hts (gV q_115 q_116 q_117 q_12 q_114) rfl rfl rfl hV_Jx4a65c_grow_92f84 ⟨Nat.le_of_ble_eq_true rfl, Nat.le_of_ble_eq_true rfl⟩) ⟨pc_blind, va_recv hK hP (ci := 0) (q := (RJx4a65c, TJx4a65c, 3)) (q0 := 0) rfl rfl, fun U hU hW => ⟨rfl, hC5 U hU hW⟩⟩ rfl rfl hl.1 rfl (lv_room (Nat.le_of_ble_eq_true rfl)) dJx4a65c_grow_d5877_7 ⟨(Nat.le_of_ble_eq_true rfl), (Nat.le_of_ble_eq_true rfl)⟩) hS (fun q9 _ h9 => hF2 q9 h9) hF2 (fun u6 r7 t6 H6 L6 ht6 hvm6 hw6 hB6 hz6 hk6 hS => ?_)
  obtain ⟨a8, k9, hr6, hB6⟩ := hB6
  obtain ⟨hP, hD, hK⟩ := pq_jn (wz := [(h0, ce39 a8), (a8, ce34 k9)]) (tz := [(k9, .object "java/lang/Object")]) hP hD hK [0] [] rfl hk6 hF2 hB6.1 ht6 hvm6 rfl rfl
  have hG : s.heap.size + 1 ≤ H6.size := va_gr (g := 0) (g1 := 1) hG (by rw [← ht6]; exact hB6.2)
  refine W.eq (g2 := F0 m 10 ls [.ref a8]) (by rw [hr6]) ?_
  refine W.widen (k := 1) (n := 10) (by decide) (by decide) ?_
  exact W.aret (v := .ref a8) hx hb hr (by first | exact Or.inl ⟨_, rfl⟩ | exact Or.inr ⟨_, rfl⟩) (Or.inr ⟨_, rfl⟩) (fun t9 ht9 hW9 => ⟨⟨(), a8, rfl, trivial, ⟨a8, k9, rfl, ⟨pq_mk2 hP hD hK [0, 1] [0] rfl rfl rfl ht9 hW9, by rw [ht9]; exact Nat.le_trans (Nat.add_le_add_left (Nat.le_of_ble_eq_true rfl) _) hG⟩⟩⟩, hS.F ht9⟩) hS.2.2 dJx4a65c_grow_d5877_10

set_option maxHeartbeats 4000000 in
set_option maxRecDepth 100000 in
theorem k28_add (l : Launch) (hl9 : l.stackTraces = false) (dC : Nat → ClassId) (dI : Nat → Nat → Nat) (z : XZ) (h0 h1 : Nat) (o0 : Nat) (sz : Nat) : Met l yJx4a65c_add_72be8 (.code yJx4a65c_add_72be8 cJx4a65c_add_72be8 4 none :: wsL_law) ({ frames := 3, cells := 1, slots := 10, locals := 65 }) (va_Pc [.ref h0, .ref h1, .ref z.1, .int 0] (PC (dC, dI) [(h0, ce39 z.1), (h1, ce38 (z.2.1 0) o0 h1)] [] sz z)) (va_Qv (fun (_ : Unit) => True) (fun (_ : Unit) (t : State) => ∃ (n0 : Nat), ∃ (m0 : ClassId), PG (dC, dI) [(h0, ce40 n0), (h1, ce38 (z.2.1 0) o0 h1), (n0, ce35 m0 h1)] [(m0, .object "java/lang/Object")] (va_A [(h0, ce39 z.1), (h1, ce38 (z.2.1 0) o0 h1)] sz) sz 1 t) (va_A [(h0, ce39 z.1), (h1, ce38 (z.2.1 0) o0 h1)] sz)) 1 10 (va_A [(h0, ce39 z.1), (h1, ce38 (z.2.1 0) o0 h1)] sz) := by
  refine Met.ofW (cc := cJx4a65c_add_72be8) (maxL := 4) (ret := none) (by decide) rfl ?_
  intro p e s m args below meth c s₁ B hml hv
  obtain ⟨rfl, hsz, hP, hK, hD0, hX, hT⟩ := hv
  have hx := B.exec
  have hb := B.bytes
  have hr := B.returns
  have hts0 := atoms_spec (ws := .code yJx4a65c_add_72be8 cJx4a65c_add_72be8 4 none :: wsL_law) B.pre
  have hts := xTail hts0
  have hown : s.vm.findClass RJx4a65c = some m.cls := xown B.named rfl
  have hlocks := B.notSynchronized
  subst hsz
  have hD := hD0.self (sz := s.heap.size)
  generalize hAe : va_A [(h0, ce39 z.1), (h1, ce38 (z.2.1 0) o0 h1)] s.heap.size = A at hD hX ⊢
  have hA : ∀ q : Nat, s.heap.size ≤ q → A q := fun q h => by rw [← hAe]; exact Or.inr h
  have hS : va_S A s.heap s.heap [] := va_S.rf
  have hG : s.heap.size + 0 ≤ s.heap.size := Nat.le_refl _
  have hl := lv_entry ([.ref h0, .ref h1, .ref z.1, .int 0]) (n := 4) (Nat.le_of_ble_eq_true rfl)
  rw [lg_entry_eq]
  generalize (lg_sl ([.ref h0, .ref h1, .ref z.1, .int 0]) ++ List.replicate (4 - (lg_sl ([.ref h0, .ref h1, .ref z.1, .int 0])).length) Slot.unset).toArray = ls at hl ⊢
  have hl : lv_has ls 4 [(0, .ref h0), (1, .ref h1), (2, .ref z.1), (3, .int 0)] := hl
  refine lv_iload_n hx hb dJx4a65c_add_72be8_0 rfl (lv_at hl 3 rfl) ?_
  refine lv_aload_n hx hb dJx4a65c_add_72be8_1 rfl (lv_at hl 2 rfl) ?_
  refine va_tlen hx hb hX.1.2 hS (v := 0) rfl dJx4a65c_add_72be8_2 ?_
  refine lv_icmp_ne (tgt := 11) hx hb dJx4a65c_add_72be8_3 (by decide) (fun cz => absurd (by decide) cz) (fun _ => ?_)
  refine lv_aload_n hx hb dJx4a65c_add_72be8_6 rfl (lv_at hl 0 rfl) ?_
  have hM3 := k27_grow l hl9 dC dI z h0 s.heap.size
  obtain ⟨hF1, hC4⟩ := pc_M hM3 hP hD hK hS hX hT hA [0] [] rfl rfl rfl
  refine va_callr (va_runV (As := []) (rest := []) ⟨hx, hb, hml, hown, hts⟩ hM3 (cwV 0 hts (gV q_119 q_120 q_121 q_12 q_118) rfl rfl rfl hV_Jx4a65c_grow_d5877 ⟨Nat.le_of_ble_eq_true rfl, Nat.le_of_ble_eq_true rfl⟩) ⟨pc_blind, va_recv hK hP (ci := 0) (q := (RJx4a65c, TJx4a65c, 3)) (q0 := 0) rfl rfl, fun U hU hW => ⟨rfl, hC4 U hU hW⟩⟩ rfl rfl hl.1 rfl (lv_room (Nat.le_of_ble_eq_true rfl)) dJx4a65c_add_72be8_7 ⟨(Nat.le_of_ble_eq_true rfl), (Nat.le_of_ble_eq_true rfl)⟩) hS (fun q9 _ h9 => hF1 q9 h9) hF1 (fun u5 r6 t5 H5 L5 ht5 hvm5 hw5 hB5 hz5 hk5 hS => ?_)
  obtain ⟨a7, k8, hr5, hB5⟩ := hB5
  obtain ⟨hP, hD, hK⟩ := pq_jn (wz := [(h1, ce38 (z.2.1 0) o0 h1), (h0, ce39 a7), (a7, ce34 k8)]) (tz := [(k8, .object "java/lang/Object")]) hP hD hK [0] [] rfl hk5 hF1 hB5.1 ht5 hvm5 rfl rfl
  have hG : s.heap.size + 1 ≤ H5.size := va_gr (g := 0) (g1 := 1) hG (by rw [← ht5]; exact hB5.2)
  refine W.eq (g2 := F0 m 10 ls [.ref a7]) (by rw [hr5]) ?_
  refine W.widen (k := 1) (n := 10) (by decide) (by decide) ?_
  refine lv_astore_n (lv' := [(2, .ref a7), (0, .ref h0), (1, .ref h1), (3, .int 0)]) hx hb dJx4a65c_add_72be8_10 rfl hl (by decide) rfl (fun ls hl => ?_)
  refine lv_aload_n hx hb dJx4a65c_add_72be8_11 rfl (lv_at hl 0 rfl) ?_
  refine lv_iload_n hx hb dJx4a65c_add_72be8_12 rfl (lv_at hl 3 rfl) ?_
  refine lv_aload_n hx hb dJx4a65c_add_72be8_13 rfl (lv_at hl 2 rfl) ?_
  refine vb_astq (E := "java/lang/Object") (C := RX2) hx hb hK hP hD (va_Sre hS) 2 0 rfl rfl (va_recv hK hP (ci := 3) (q := (RX2, TX2, 19)) (q0 := 0) rfl rfl) (vb_asgC (hT.2.1.1 (RX2, "java/lang/Object") (by decide))) (i := 0) (by unfold vp_in; decide) dJx4a65c_add_72be8_14 (fun H9 _ hP hD hS' => ?_)
  have hG : s.heap.size + 1 ≤ H9.size := Nat.le_trans hG hS'.1
  have hS := va_Str hS hS'
  have hP : va_P (dC, dI) xCl [(h1, ce38 (z.2.1 0) o0 h1), (h0, ce39 a7), (a7, ce35 k8 h1)] H9 := hP
  have hD := vd_as hP hD rfl
  refine lv_aload_n hx hb dJx4a65c_add_72be8_15 rfl (lv_at hl 1 rfl) ?_
  refine lv_iload_n hx hb dJx4a65c_add_72be8_16 rfl (lv_at hl 3 rfl) ?_
  refine lv_iconst (v := 1) hx hb dJx4a65c_add_72be8_17 (by decide) ?_
  refine lv_iadd hx hb dJx4a65c_add_72be8_18 ?_
  refine lv_topi (fun y10 ey10 => ?_)
  obtain rfl : y10 = 1 := ey10.trans (by decide)
  refine va_put (D := (dC, dI)) (ci := 0) (v := .int 1) (ty := .int) (C := RJx4a65c) (T := TJx4a65c) (N := 3) hx hb hts in_Jx4a65c tyJx4a65c tyJx4a65c_ok nmJx4a65c hown hK hP hD (va_Sre hS) 1 rfl rfl 2 (by decide) (hts _ q_74) (fun _ h9 => h9) rfl (by decide +kernel) rfl rfl (Nat.le_of_ble_eq_true rfl) dJx4a65c_add_72be8_19 (fun H11 _ hP hD hS' => ?_)
  have hG : s.heap.size + 1 ≤ H11.size := Nat.le_trans hG hS'.1
  have hS := va_Str hS hS'
  have hP : va_P (dC, dI) xCl [(h1, ce38 (z.2.1 0) o0 h1), (h0, ce40 a7), (a7, ce35 k8 h1)] H11 := hP
  have hD := vd_as hP hD rfl
  exact W.vret hx hb hr (fun t9 ht9 hW9 => ⟨⟨(), rfl, trivial, ⟨a7, k8, ⟨pq_mk2 hP hD hK [1, 0, 2] [0] rfl rfl rfl ht9 hW9, by rw [ht9]; exact Nat.le_trans (Nat.add_le_add_left (Nat.le_of_ble_eq_true rfl) _) hG⟩⟩⟩, hS.F ht9⟩) hS.2.2 dJx4a65c_add_72be8_22

set_option maxHeartbeats 4000000 in
set_option maxRecDepth 100000 in
theorem k29_add (l : Launch) (hl9 : l.stackTraces = false) (dC : Nat → ClassId) (dI : Nat → Nat → Nat) (z : XZ) (h0 h1 : Nat) (o0 : Nat) (sz : Nat) : Met l yJx4a65c_add_9ea2d (.code yJx4a65c_add_9ea2d cJx4a65c_add_9ea2d 2 (some .boolean) :: wsL_law) ({ frames := 4, cells := 1, slots := 10, locals := 88 }) (va_Pc [.ref h0, .ref h1] (PC (dC, dI) [(h0, ce33 z.1), (h1, ce38 (z.2.1 0) o0 h1)] [] sz z)) (va_Qi (fun (r : Int32) (_ : Unit) => r = 1) (fun (_ : Unit) (t : State) => ∃ (n0 : Nat), ∃ (m0 : ClassId), PG (dC, dI) [(h0, ce40 n0), (h1, ce38 (z.2.1 0) o0 h1), (n0, ce35 m0 h1)] [(m0, .object "java/lang/Object")] (va_A [(h0, ce33 z.1), (h1, ce38 (z.2.1 0) o0 h1)] sz) sz 1 t) (va_A [(h0, ce33 z.1), (h1, ce38 (z.2.1 0) o0 h1)] sz)) 1 10 (va_A [(h0, ce33 z.1), (h1, ce38 (z.2.1 0) o0 h1)] sz) := by
  refine Met.ofW (cc := cJx4a65c_add_9ea2d) (maxL := 2) (ret := (some .boolean)) (by decide) rfl ?_
  intro p e s m args below meth c s₁ B hml hv
  obtain ⟨rfl, hsz, hP, hK, hD0, hX, hT⟩ := hv
  have hx := B.exec
  have hb := B.bytes
  have hr := B.returns
  have hts0 := atoms_spec (ws := .code yJx4a65c_add_9ea2d cJx4a65c_add_9ea2d 2 (some .boolean) :: wsL_law) B.pre
  have hts := xTail hts0
  have hown : s.vm.findClass RJx4a65c = some m.cls := xown B.named rfl
  have hlocks := B.notSynchronized
  subst hsz
  have hD := hD0.self (sz := s.heap.size)
  generalize hAe : va_A [(h0, ce33 z.1), (h1, ce38 (z.2.1 0) o0 h1)] s.heap.size = A at hD hX ⊢
  have hA : ∀ q : Nat, s.heap.size ≤ q → A q := fun q h => by rw [← hAe]; exact Or.inr h
  have hS : va_S A s.heap s.heap [] := va_S.rf
  have hG : s.heap.size + 0 ≤ s.heap.size := Nat.le_refl _
  have hl := lv_entry ([.ref h0, .ref h1]) (n := 2) (Nat.le_of_ble_eq_true rfl)
  rw [lg_entry_eq]
  generalize (lg_sl ([.ref h0, .ref h1]) ++ List.replicate (2 - (lg_sl ([.ref h0, .ref h1])).length) Slot.unset).toArray = ls at hl ⊢
  have hl : lv_has ls 2 [(0, .ref h0), (1, .ref h1)] := hl
  refine lv_aload_n hx hb dJx4a65c_add_9ea2d_0 rfl (lv_at hl 0 rfl) ?_
  refine lv_dup hx hb dJx4a65c_add_9ea2d_1 rfl ?_
  refine va_get (D := (dC, dI)) (ci := 0) (v := .int 1) (C := RJx4a65c) (T := TJx4a65c) (N := 3) hx hb hts in_Jx4a65c hown hK hP 0 rfl rfl 0 (by decide) (hts _ q_108) (u_same (hts _ q_107)) rfl dJx4a65c_add_9ea2d_2 ?_
  refine lv_iconst (v := 1) hx hb dJx4a65c_add_9ea2d_5 (by decide) ?_
  refine lv_iadd hx hb dJx4a65c_add_9ea2d_6 ?_
  refine lv_topi (fun y1 ey1 => ?_)
  obtain rfl : y1 = 2 := ey1.trans (by decide)
  refine va_put (D := (dC, dI)) (ci := 0) (v := .int 2) (ty := .int) (C := RJx4a65c) (T := TJx4a65c) (N := 3) hx hb hts in_Jx4a65c tyJx4a65c tyJx4a65c_ok nmJx4a65c hown hK hP hD (va_Sre hS) 0 rfl rfl 0 (by decide) (hts _ q_108) (u_same (hts _ q_107)) rfl (by decide +kernel) rfl rfl (Nat.le_of_ble_eq_true rfl) dJx4a65c_add_9ea2d_7 (fun H2 _ hP hD hS' => ?_)
  have hG : s.heap.size + 0 ≤ H2.size := Nat.le_trans hG hS'.1
  have hS := va_Str hS hS'
  have hP : va_P (dC, dI) xCl [(h0, ce39 z.1), (h1, ce38 (z.2.1 0) o0 h1)] H2 := hP
  have hD := vd_as hP hD rfl
  refine lv_aload_n hx hb dJx4a65c_add_9ea2d_10 rfl (lv_at hl 0 rfl) ?_
  refine lv_aload_n hx hb dJx4a65c_add_9ea2d_11 rfl (lv_at hl 1 rfl) ?_
  refine lv_aload_n hx hb dJx4a65c_add_9ea2d_12 rfl (lv_at hl 0 rfl) ?_
  refine va_get (D := (dC, dI)) (ci := 0) (v := .ref z.1) (C := RJx4a65c) (T := TJx4a65c) (N := 3) hx hb hts in_Jx4a65c hown hK hP 0 rfl rfl 1 (by decide) (hts _ q_24) (fun _ h9 => h9) rfl dJx4a65c_add_9ea2d_13 ?_
  refine lv_aload_n hx hb dJx4a65c_add_9ea2d_16 rfl (lv_at hl 0 rfl) ?_
  refine va_get (D := (dC, dI)) (ci := 0) (v := .int 0) (C := RJx4a65c) (T := TJx4a65c) (N := 3) hx hb hts in_Jx4a65c hown hK hP 0 rfl rfl 2 (by decide) (hts _ q_74) (fun _ h9 => h9) rfl dJx4a65c_add_9ea2d_17 ?_
  have hM5 := k28_add l hl9 dC dI z h0 h1 o0 H2.size
  obtain ⟨hF3, hC6⟩ := pc_M hM5 hP hD hK hS hX hT hA [0, 1] [] rfl rfl rfl
  refine va_callv (va_runV (As := [.ref h1, .ref z.1, .int 0]) (rest := []) ⟨hx, hb, hml, hown, hts⟩ hM5 (cwV 3 hts (gV q_123 q_124 q_125 q_12 q_122) rfl rfl rfl hV_Jx4a65c_add_72be8 ⟨Nat.le_of_ble_eq_true rfl, Nat.le_of_ble_eq_true rfl⟩) ⟨pc_blind, va_recv hK hP (ci := 0) (q := (RJx4a65c, TJx4a65c, 3)) (q0 := 0) rfl rfl, fun U hU hW => ⟨rfl, hC6 U hU hW⟩⟩ rfl rfl hl.1 rfl (lv_room (Nat.le_of_ble_eq_true rfl)) dJx4a65c_add_9ea2d_20 ⟨(Nat.le_of_ble_eq_true rfl), (Nat.le_of_ble_eq_true rfl)⟩) hS (fun q9 _ h9 => hF3 q9 h9) hF3 (fun u7 t7 H7 L7 ht7 hvm7 hw7 hB7 hz7 hk7 hS => ?_)
  obtain ⟨a9, k10, hB7⟩ := hB7
  obtain ⟨hP, hD, hK⟩ := pq_jn (wz := [(h0, ce40 a9), (h1, ce38 (z.2.1 0) o0 h1), (a9, ce35 k10 h1)]) (tz := [(k10, .object "java/lang/Object")]) hP hD hK [0, 1] [] rfl hk7 hF3 hB7.1 ht7 hvm7 rfl rfl
  have hG : s.heap.size + 1 ≤ H7.size := va_gr (g := 0) (g1 := 1) hG (by rw [← ht7]; exact hB7.2)
  refine W.widen (k := 1) (n := 10) (by decide) (by decide) ?_
  refine lv_iconst (v := 1) hx hb dJx4a65c_add_9ea2d_23 (by decide) ?_
  exact W.zret (v := 1) (ty := .boolean) hx hb hr rfl (fun t9 ht9 hW9 => ⟨⟨1, (), rfl, rfl, ⟨a9, k10, ⟨pq_mk2 hP hD hK [0, 1, 2] [0] rfl rfl rfl ht9 hW9, by rw [ht9]; exact Nat.le_trans (Nat.add_le_add_left (Nat.le_of_ble_eq_true rfl) _) hG⟩⟩⟩, hS.F ht9⟩) hS.2.2 dJx4a65c_add_9ea2d_24

set_option maxHeartbeats 4000000 in
set_option maxRecDepth 100000 in
theorem k30_placeThoseReady (l : Launch) (hl9 : l.stackTraces = false) (dC : Nat → ClassId) (dI : Nat → Nat → Nat) (z : XZ) (h0 h1 h2 h3 h4 h5 : Nat) (o0 o1 : Nat) (sz : Nat) (kc0 : ClassId) : Met l yX0_placeThoseReady (.code yX0_placeThoseReady cX0_placeThoseReady 3 none :: wsL_law) ({ frames := 5, cells := 1, slots := 10, locals := 109 }) (va_Pc [.ref h0] (PC (dC, dI) [(h0, ce7 h1 o0 o1 h2), (h1, ce36 h3), (h2, ce33 z.1), (h3, ce35 kc0 h4), (h4, ce32 (z.2.1 0) h5 h4), (h5, ce3 z.1)] [(kc0, .object "java/lang/Object")] sz z)) (va_Qv (fun (_ : Unit) => True) (fun (_ : Unit) (t : State) => ∃ (n0 : Nat), ∃ (m0 : ClassId), PG (dC, dI) [(h0, ce7 h1 o0 o1 h2), (h1, ce36 h3), (h2, ce40 n0), (h3, ce35 kc0 h4), (h4, ce38 (z.2.1 0) h5 h4), (h5, ce3 z.1), (n0, ce35 m0 h4)] [(kc0, .object "java/lang/Object"), (m0, .object "java/lang/Object")] (va_A [(h0, ce7 h1 o0 o1 h2), (h1, ce36 h3), (h2, ce33 z.1), (h3, ce35 kc0 h4), (h4, ce32 (z.2.1 0) h5 h4), (h5, ce3 z.1)] sz) sz 1 t) (va_A [(h0, ce7 h1 o0 o1 h2), (h1, ce36 h3), (h2, ce33 z.1), (h3, ce35 kc0 h4), (h4, ce32 (z.2.1 0) h5 h4), (h5, ce3 z.1)] sz)) 1 10 (va_A [(h0, ce7 h1 o0 o1 h2), (h1, ce36 h3), (h2, ce33 z.1), (h3, ce35 kc0 h4), (h4, ce32 (z.2.1 0) h5 h4), (h5, ce3 z.1)] sz) := by
  refine Met.ofW (cc := cX0_placeThoseReady) (maxL := 3) (ret := none) (by decide) rfl ?_
  intro p e s m args below meth c s₁ B hml hv
  obtain ⟨rfl, hsz, hP, hK, hD0, hX, hT⟩ := hv
  have hx := B.exec
  have hb := B.bytes
  have hr := B.returns
  have hts0 := atoms_spec (ws := .code yX0_placeThoseReady cX0_placeThoseReady 3 none :: wsL_law) B.pre
  have hts := xTail hts0
  have hown : s.vm.findClass RX0 = some m.cls := xown B.named rfl
  have hlocks := B.notSynchronized
  subst hsz
  have hD := hD0.self (sz := s.heap.size)
  generalize hAe : va_A [(h0, ce7 h1 o0 o1 h2), (h1, ce36 h3), (h2, ce33 z.1), (h3, ce35 kc0 h4), (h4, ce32 (z.2.1 0) h5 h4), (h5, ce3 z.1)] s.heap.size = A at hD hX ⊢
  have hA : ∀ q : Nat, s.heap.size ≤ q → A q := fun q h => by rw [← hAe]; exact Or.inr h
  have hS : va_S A s.heap s.heap [] := va_S.rf
  have hG : s.heap.size + 0 ≤ s.heap.size := Nat.le_refl _
  have hl := lv_entry ([.ref h0]) (n := 3) (Nat.le_of_ble_eq_true rfl)
  rw [lg_entry_eq]
  generalize (lg_sl ([.ref h0]) ++ List.replicate (3 - (lg_sl ([.ref h0])).length) Slot.unset).toArray = ls at hl ⊢
  have hl : lv_has ls 3 [(0, .ref h0)] := hl
  refine lv_iconst (v := 0) hx hb dX0_placeThoseReady_0 (by decide) ?_
  refine lv_istore_n (lv' := [(1, .int 0), (0, .ref h0)]) hx hb dX0_placeThoseReady_1 rfl hl (by decide) rfl (fun ls hl => ?_)
  refine lv_iload_n hx hb dX0_placeThoseReady_2 rfl (lv_at hl 0 rfl) ?_
  refine lv_aload_n hx hb dX0_placeThoseReady_3 rfl (lv_at hl 1 rfl) ?_
  refine va_get (D := (dC, dI)) (ci := 2) (v := .ref h1) (C := RX0) (T := TX0) (N := 4) hx hb hts in_X0 hown hK hP 0 rfl rfl 0 (by decide) (hts _ q_28) (fun _ h9 => h9) rfl dX0_placeThoseReady_4 ?_
  have hM3 := k20_size l hl9 dC dI z h1 h3 s.heap.size 1 1
  obtain ⟨hF1, hC4⟩ := pc_M hM3 hP hD hK hS hX hT hA [1] [] rfl rfl rfl
  refine va_calli (va_runV (As := []) (rest := [.int 0]) ⟨hx, hb, hml, hown, hts⟩ hM3 (cwV 0 hts (gV q_92 q_77 q_78 q_12 q_75) rfl rfl rfl hV_Jx4a65c_size_8abf5 ⟨Nat.le_of_ble_eq_true rfl, Nat.le_of_ble_eq_true rfl⟩) ⟨pc_blind, va_recv hK hP (ci := 0) (q := (RJx4a65c, TJx4a65c, 3)) (q0 := 1) rfl rfl, fun U hU hW => ⟨rfl, hC4 U hU hW⟩⟩ rfl rfl hl.1 rfl (lv_room (Nat.le_of_ble_eq_true rfl)) dX0_placeThoseReady_7 ⟨(Nat.le_of_ble_eq_true rfl), (Nat.le_of_ble_eq_true rfl)⟩) hS (fun q9 _ h9 => hF1 q9 h9) hF1 (fun r6 u5 t5 H5 L5 ht5 hvm5 hw5 hB5 hz5 hk5 hS => ?_)
  have hP := pq_keep hP hD [1] rfl hk5 hB5.1 ht5
  have hG : s.heap.size + 0 ≤ H5.size := Nat.le_trans hG hz5
  refine W.eq (g2 := F0 m 10 ls [.int 1, .int 0]) (by rw [hw5]) ?_
  refine lv_icmp_ge (tgt := 59) hx hb dX0_placeThoseReady_10 (by decide) (fun cz => absurd cz (by decide)) (fun _ => ?_)
  refine lv_aload_n hx hb dX0_placeThoseReady_13 rfl (lv_at hl 1 rfl) ?_
  refine va_get (D := (dC, dI)) (ci := 2) (v := .ref h1) (C := RX0) (T := TX0) (N := 4) hx hb hts in_X0 hown hK hP 0 rfl rfl 0 (by decide) (hts _ q_28) (fun _ h9 => h9) rfl dX0_placeThoseReady_14 ?_
  refine lv_iload_n hx hb dX0_placeThoseReady_17 rfl (lv_at hl 0 rfl) ?_
  have hM9 := k24_get l hl9 dC dI z h1 h3 h4 H5.size kc0
  obtain ⟨hF7, hC10⟩ := pc_M hM9 hP hD hK hS hX hT hA [1, 3] [0] rfl rfl rfl
  refine va_callr (va_runV (As := [.int 0]) (rest := []) ⟨hx, hb, hml, hown, hts⟩ hM9 (cwV 1 hts (gV q_156 q_157 q_158 q_12 q_155) rfl rfl rfl hV_Jx4a65c_get_915e3 ⟨Nat.le_of_ble_eq_true rfl, Nat.le_of_ble_eq_true rfl⟩) ⟨pc_blind, va_recv hK hP (ci := 0) (q := (RJx4a65c, TJx4a65c, 3)) (q0 := 1) rfl rfl, fun U hU hW => ⟨rfl, hC10 U hU hW⟩⟩ rfl rfl hl.1 rfl (lv_room (Nat.le_of_ble_eq_true rfl)) dX0_placeThoseReady_18 ⟨(Nat.le_of_ble_eq_true rfl), (Nat.le_of_ble_eq_true rfl)⟩) hS (fun q9 _ h9 => hF7 q9 h9) hF7 (fun u11 r12 t11 H11 L11 ht11 hvm11 hw11 hB11 hz11 hk11 hS => ?_)
  obtain ⟨hr11, hB11⟩ := hB11
  have hP := pq_keep hP hD [1, 3] rfl hk11 hB11.1 ht11
  have hG : s.heap.size + 0 ≤ H11.size := Nat.le_trans hG hz11
  refine W.eq (g2 := F0 m 21 ls [.ref h4]) (by rw [hr11]) ?_
  refine va_castE (nm := RX2) hx hb hown (hts _ q_89) (va_recv hK hP (ci := 3) (q := (RX2, TX2, 19)) (q0 := 4) rfl rfl) dX0_placeThoseReady_21 ?_
  refine lv_astore_n (lv' := [(2, .ref h4), (1, .int 0), (0, .ref h0)]) hx hb dX0_placeThoseReady_24 rfl hl (by decide) rfl (fun ls hl => ?_)
  refine lv_aload_n hx hb dX0_placeThoseReady_25 rfl (lv_at hl 0 rfl) ?_
  refine va_get (D := (dC, dI)) (ci := 3) (v := .int 0) (C := RX2) (T := TX2) (N := 19) hx hb hts in_X2 hown hK hP 4 rfl rfl 17 (by decide) (hts _ q_159) (fun _ h9 => h9) rfl dX0_placeThoseReady_26 ?_
  refine lv_if_ne (tgt := 53) hx hb dX0_placeThoseReady_29 (by decide) (fun cz => absurd (by decide) cz) (fun _ => ?_)
  refine lv_aload_n hx hb dX0_placeThoseReady_32 rfl (lv_at hl 0 rfl) ?_
  have hM15 := k25_readsOnlyPlaced l hl9 dC dI z h4 h5 H11.size
  obtain ⟨hF13, hC16⟩ := pc_M hM15 hP hD hK hS hX hT hA [4, 5] [] rfl rfl rfl
  refine va_calli (va_runV (As := []) (rest := []) ⟨hx, hb, hml, hown, hts⟩ hM15 (cwV 0 hts (gV q_162 q_163 q_164 q_91 q_161) rfl rfl rfl hV_X2_readsOnlyPlaced ⟨Nat.le_of_ble_eq_true rfl, Nat.le_of_ble_eq_true rfl⟩) ⟨pc_blind, va_recv hK hP (ci := 3) (q := (RX2, TX2, 19)) (q0 := 4) rfl rfl, fun U hU hW => ⟨rfl, hC16 U hU hW⟩⟩ rfl rfl hl.1 rfl (lv_room (Nat.le_of_ble_eq_true rfl)) dX0_placeThoseReady_33 ⟨(Nat.le_of_ble_eq_true rfl), (Nat.le_of_ble_eq_true rfl)⟩) hS (fun q9 _ h9 => hF13 q9 h9) hF13 (fun r18 u17 t17 H17 L17 ht17 hvm17 hw17 hB17 hz17 hk17 hS => ?_)
  have hP := pq_keep hP hD [4, 5] rfl hk17 hB17.1 ht17
  have hG : s.heap.size + 0 ≤ H17.size := Nat.le_trans hG hz17
  refine W.eq (g2 := F0 m 36 ls [.int 1]) (by rw [hw17]) ?_
  refine lv_if_eq (tgt := 53) hx hb dX0_placeThoseReady_36 (by decide) (fun cz => absurd cz (by decide)) (fun _ => ?_)
  refine lv_aload_n hx hb dX0_placeThoseReady_39 rfl (lv_at hl 0 rfl) ?_
  refine lv_iconst (v := 1) hx hb dX0_placeThoseReady_40 (by decide) ?_
  refine va_put (D := (dC, dI)) (ci := 3) (v := .int 1) (ty := .boolean) (C := RX2) (T := TX2) (N := 19) hx hb hts in_X2 tyX2 tyX2_ok nmX2 hown hK hP hD (va_Sre hS) 4 rfl rfl 17 (by decide) (hts _ q_159) (fun _ h9 => h9) rfl (by decide +kernel) rfl rfl (Nat.le_of_ble_eq_true rfl) dX0_placeThoseReady_41 (fun H19 _ hP hD hS' => ?_)
  have hG : s.heap.size + 0 ≤ H19.size := Nat.le_trans hG hS'.1
  have hS := va_Str hS hS'
  have hP : va_P (dC, dI) xCl [(h0, ce7 h1 o0 o1 h2), (h1, ce36 h3), (h2, ce33 z.1), (h3, ce35 kc0 h4), (h4, ce38 (z.2.1 0) h5 h4), (h5, ce3 z.1)] H19 := hP
  have hD := vd_as hP hD rfl
  refine lv_aload_n hx hb dX0_placeThoseReady_44 rfl (lv_at hl 2 rfl) ?_
  refine va_get (D := (dC, dI)) (ci := 2) (v := .ref h2) (C := RX0) (T := TX0) (N := 4) hx hb hts in_X0 hown hK hP 0 rfl rfl 3 (by decide) (hts _ q_31) (fun _ h9 => h9) rfl dX0_placeThoseReady_45 ?_
  refine lv_aload_n hx hb dX0_placeThoseReady_48 rfl (lv_at hl 0 rfl) ?_
  have hM22 := k29_add l hl9 dC dI z h2 h4 h5 H19.size
  obtain ⟨hF20, hC23⟩ := pc_M hM22 hP hD hK hS hX hT hA [2, 4] [] rfl rfl rfl
  refine va_calli (va_runV (As := [.ref h4]) (rest := []) ⟨hx, hb, hml, hown, hts⟩ hM22 (cwV 1 hts (gV q_127 q_128 q_129 q_12 q_126) rfl rfl rfl hV_Jx4a65c_add_9ea2d ⟨Nat.le_of_ble_eq_true rfl, Nat.le_of_ble_eq_true rfl⟩) ⟨pc_blind, va_recv hK hP (ci := 0) (q := (RJx4a65c, TJx4a65c, 3)) (q0 := 2) rfl rfl, fun U hU hW => ⟨rfl, hC23 U hU hW⟩⟩ rfl rfl hl.1 rfl (lv_room (Nat.le_of_ble_eq_true rfl)) dX0_placeThoseReady_49 ⟨(Nat.le_of_ble_eq_true rfl), (Nat.le_of_ble_eq_true rfl)⟩) hS (fun q9 _ h9 => hF20 q9 h9) hF20 (fun r25 u24 t24 H24 L24 ht24 hvm24 hw24 hB24 hz24 hk24 hS => ?_)
  obtain ⟨a26, k27, hB24⟩ := hB24
  obtain ⟨hP, hD, hK⟩ := pq_jn (wz := [(h0, ce7 h1 o0 o1 h2), (h1, ce36 h3), (h3, ce35 kc0 h4), (h5, ce3 z.1), (h2, ce40 a26), (h4, ce38 (z.2.1 0) h5 h4), (a26, ce35 k27 h4)]) (tz := [(kc0, .object "java/lang/Object"), (k27, .object "java/lang/Object")]) hP hD hK [2, 4] [0] rfl hk24 hF20 hB24.1 ht24 hvm24 rfl rfl
  have hG : s.heap.size + 1 ≤ H24.size := va_gr (g := 0) (g1 := 1) hG (by rw [← ht24]; exact hB24.2)
  refine W.eq (g2 := F0 m 52 ls [.int 1]) (by rw [hw24]) ?_
  refine W.widen (k := 1) (n := 10) (by decide) (by decide) ?_
  refine lv_pop hx hb dX0_placeThoseReady_52 rfl ?_
  refine lv_iinc (v := 1) (lv' := [(1, .int 1), (2, .ref h4), (0, .ref h0)]) hx hb dX0_placeThoseReady_53 hl (k := 1) rfl (by decide) (by decide) rfl (fun ls hl => ?_)
  refine lv_goto (tgt := 2) hx hb dX0_placeThoseReady_56 (by decide) ?_
  refine lv_iload_n hx hb dX0_placeThoseReady_2 rfl (lv_at hl 0 rfl) ?_
  refine lv_aload_n hx hb dX0_placeThoseReady_3 rfl (lv_at hl 2 rfl) ?_
  refine va_get (D := (dC, dI)) (ci := 2) (v := .ref h1) (C := RX0) (T := TX0) (N := 4) hx hb hts in_X0 hown hK hP 0 rfl rfl 0 (by decide) (hts _ q_28) (fun _ h9 => h9) rfl dX0_placeThoseReady_4 ?_
  have hM30 := k20_size l hl9 dC dI z h1 h3 H24.size 1 1
  obtain ⟨hF28, hC31⟩ := pc_M hM30 hP hD hK hS hX hT hA [1] [] rfl rfl rfl
  refine va_calli (va_runV (As := []) (rest := [.int 1]) ⟨hx, hb, hml, hown, hts⟩ hM30 (cwV 0 hts (gV q_92 q_77 q_78 q_12 q_75) rfl rfl rfl hV_Jx4a65c_size_8abf5 ⟨Nat.le_of_ble_eq_true rfl, Nat.le_of_ble_eq_true rfl⟩) ⟨pc_blind, va_recv hK hP (ci := 0) (q := (RJx4a65c, TJx4a65c, 3)) (q0 := 1) rfl rfl, fun U hU hW => ⟨rfl, hC31 U hU hW⟩⟩ rfl rfl hl.1 rfl (lv_room (Nat.le_of_ble_eq_true rfl)) dX0_placeThoseReady_7 ⟨(Nat.le_of_ble_eq_true rfl), (Nat.le_of_ble_eq_true rfl)⟩) hS (fun q9 _ h9 => hF28 q9 h9) hF28 (fun r33 u32 t32 H32 L32 ht32 hvm32 hw32 hB32 hz32 hk32 hS => ?_)
  have hP := pq_keep hP hD [1] rfl hk32 hB32.1 ht32
  have hG : s.heap.size + 1 ≤ H32.size := Nat.le_trans hG hz32
  refine W.eq (g2 := F0 m 10 ls [.int 1, .int 1]) (by rw [hw32]) ?_
  refine lv_icmp_ge (tgt := 59) hx hb dX0_placeThoseReady_10 (by decide) (fun _ => ?_) (fun cz => absurd (by decide) cz)
  exact W.vret hx hb hr (fun t9 ht9 hW9 => ⟨⟨(), rfl, trivial, ⟨a26, k27, ⟨pq_mk2 hP hD hK [0, 1, 4, 2, 5, 3, 6] [0, 1] rfl rfl rfl ht9 hW9, by rw [ht9]; exact Nat.le_trans (Nat.add_le_add_left (Nat.le_of_ble_eq_true rfl) _) hG⟩⟩⟩, hS.F ht9⟩) hS.2.2 dX0_placeThoseReady_59

set_option maxHeartbeats 4000000 in
set_option maxRecDepth 100000 in
theorem k31_putInOrder (l : Launch) (hl9 : l.stackTraces = false) (dC : Nat → ClassId) (dI : Nat → Nat → Nat) (z : XZ) (h0 h1 h2 h3 h4 h5 : Nat) (o0 o1 : Nat) (sz : Nat) (kc0 : ClassId) : Met l yX0_putInOrder (.code yX0_putInOrder cX0_putInOrder 2 none :: wsL_law) ({ frames := 6, cells := 1, slots := 10, locals := 131 }) (va_Pc [.ref h0] (PC (dC, dI) [(h0, ce7 h1 o0 o1 h2), (h1, ce36 h3), (h2, ce3 z.1), (h3, ce35 kc0 h4), (h4, ce32 (z.2.1 0) h5 h4), (h5, ce3 z.1)] [(kc0, .object "java/lang/Object")] sz z)) (va_Qv (fun (_ : Unit) => True) (fun (_ : Unit) (t : State) => ∃ (n0 : Nat), ∃ (m0 : ClassId), PG (dC, dI) [(h0, ce7 h1 o0 o1 h2), (h1, ce36 h3), (h2, ce40 n0), (h3, ce35 kc0 h4), (h4, ce38 (z.2.1 0) h5 h4), (h5, ce3 z.1), (n0, ce35 m0 h4)] [(kc0, .object "java/lang/Object"), (m0, .object "java/lang/Object")] (va_A [(h0, ce7 h1 o0 o1 h2), (h1, ce36 h3), (h2, ce3 z.1), (h3, ce35 kc0 h4), (h4, ce32 (z.2.1 0) h5 h4), (h5, ce3 z.1)] sz) sz 1 t) (va_A [(h0, ce7 h1 o0 o1 h2), (h1, ce36 h3), (h2, ce3 z.1), (h3, ce35 kc0 h4), (h4, ce32 (z.2.1 0) h5 h4), (h5, ce3 z.1)] sz)) 1 10 (va_A [(h0, ce7 h1 o0 o1 h2), (h1, ce36 h3), (h2, ce3 z.1), (h3, ce35 kc0 h4), (h4, ce32 (z.2.1 0) h5 h4), (h5, ce3 z.1)] sz) := by
  refine Met.ofW (cc := cX0_putInOrder) (maxL := 2) (ret := none) (by decide) rfl ?_
  intro p e s m args below meth c s₁ B hml hv
  obtain ⟨rfl, hsz, hP, hK, hD0, hX, hT⟩ := hv
  have hx := B.exec
  have hb := B.bytes
  have hr := B.returns
  have hts0 := atoms_spec (ws := .code yX0_putInOrder cX0_putInOrder 2 none :: wsL_law) B.pre
  have hts := xTail hts0
  have hown : s.vm.findClass RX0 = some m.cls := xown B.named rfl
  have hlocks := B.notSynchronized
  subst hsz
  have hD := hD0.self (sz := s.heap.size)
  generalize hAe : va_A [(h0, ce7 h1 o0 o1 h2), (h1, ce36 h3), (h2, ce3 z.1), (h3, ce35 kc0 h4), (h4, ce32 (z.2.1 0) h5 h4), (h5, ce3 z.1)] s.heap.size = A at hD hX ⊢
  have hA : ∀ q : Nat, s.heap.size ≤ q → A q := fun q h => by rw [← hAe]; exact Or.inr h
  have hS : va_S A s.heap s.heap [] := va_S.rf
  have hG : s.heap.size + 0 ≤ s.heap.size := Nat.le_refl _
  have hl := lv_entry ([.ref h0]) (n := 2) (Nat.le_of_ble_eq_true rfl)
  rw [lg_entry_eq]
  generalize (lg_sl ([.ref h0]) ++ List.replicate (2 - (lg_sl ([.ref h0])).length) Slot.unset).toArray = ls at hl ⊢
  have hl : lv_has ls 2 [(0, .ref h0)] := hl
  refine lv_aload_n hx hb dX0_putInOrder_0 rfl (lv_at hl 0 rfl) ?_
  refine va_get (D := (dC, dI)) (ci := 2) (v := .ref h2) (C := RX0) (T := TX0) (N := 4) hx hb hts in_X0 hown hK hP 0 rfl rfl 3 (by decide) (hts _ q_31) (fun _ h9 => h9) rfl dX0_putInOrder_1 ?_
  have hM3 := k19_clear l hl9 dC dI z h2 s.heap.size
  obtain ⟨hF1, hC4⟩ := pc_M hM3 hP hD hK hS hX hT hA [2] [] rfl rfl rfl
  refine va_callv (va_runV (As := []) (rest := []) ⟨hx, hb, hml, hown, hts⟩ hM3 (cwV 0 hts (gV q_140 q_141 q_142 q_12 q_139) rfl rfl rfl hV_Jx4a65c_clear_da8c8 ⟨Nat.le_of_ble_eq_true rfl, Nat.le_of_ble_eq_true rfl⟩) ⟨pc_blind, va_recv hK hP (ci := 0) (q := (RJx4a65c, TJx4a65c, 3)) (q0 := 2) rfl rfl, fun U hU hW => ⟨rfl, hC4 U hU hW⟩⟩ rfl rfl hl.1 rfl (lv_room (Nat.le_of_ble_eq_true rfl)) dX0_putInOrder_4 ⟨(Nat.le_of_ble_eq_true rfl), (Nat.le_of_ble_eq_true rfl)⟩) hS (fun q9 _ h9 => hF1 q9 h9) hF1 (fun u5 t5 H5 L5 ht5 hvm5 hw5 hB5 hz5 hk5 hS => ?_)
  obtain ⟨hP, hD, hK⟩ := pq_jn (wz := [(h0, ce7 h1 o0 o1 h2), (h1, ce36 h3), (h3, ce35 kc0 h4), (h4, ce32 (z.2.1 0) h5 h4), (h5, ce3 z.1), (h2, ce33 z.1)]) (tz := [(kc0, .object "java/lang/Object")]) hP hD hK [2] [0] rfl hk5 hF1 hB5.1 ht5 hvm5 rfl rfl
  have hG : s.heap.size + 0 ≤ H5.size := Nat.le_trans hG hz5
  refine lv_iconst (v := 0) hx hb dX0_putInOrder_7 (by decide) ?_
  refine lv_istore_n (lv' := [(1, .int 0), (0, .ref h0)]) hx hb dX0_putInOrder_8 rfl hl (by decide) rfl (fun ls hl => ?_)
  refine lv_iload_n hx hb dX0_putInOrder_9 rfl (lv_at hl 0 rfl) ?_
  refine lv_aload_n hx hb dX0_putInOrder_10 rfl (lv_at hl 1 rfl) ?_
  refine va_get (D := (dC, dI)) (ci := 2) (v := .ref h1) (C := RX0) (T := TX0) (N := 4) hx hb hts in_X0 hown hK hP 0 rfl rfl 0 (by decide) (hts _ q_28) (fun _ h9 => h9) rfl dX0_putInOrder_11 ?_
  have hM9 := k20_size l hl9 dC dI z h1 h3 H5.size 1 1
  obtain ⟨hF7, hC10⟩ := pc_M hM9 hP hD hK hS hX hT hA [1] [] rfl rfl rfl
  refine va_calli (va_runV (As := []) (rest := [.int 0]) ⟨hx, hb, hml, hown, hts⟩ hM9 (cwV 0 hts (gV q_92 q_77 q_78 q_12 q_75) rfl rfl rfl hV_Jx4a65c_size_8abf5 ⟨Nat.le_of_ble_eq_true rfl, Nat.le_of_ble_eq_true rfl⟩) ⟨pc_blind, va_recv hK hP (ci := 0) (q := (RJx4a65c, TJx4a65c, 3)) (q0 := 1) rfl rfl, fun U hU hW => ⟨rfl, hC10 U hU hW⟩⟩ rfl rfl hl.1 rfl (lv_room (Nat.le_of_ble_eq_true rfl)) dX0_putInOrder_14 ⟨(Nat.le_of_ble_eq_true rfl), (Nat.le_of_ble_eq_true rfl)⟩) hS (fun q9 _ h9 => hF7 q9 h9) hF7 (fun r12 u11 t11 H11 L11 ht11 hvm11 hw11 hB11 hz11 hk11 hS => ?_)
  have hP := pq_keep hP hD [1] rfl hk11 hB11.1 ht11
  have hG : s.heap.size + 0 ≤ H11.size := Nat.le_trans hG hz11
  refine W.eq (g2 := F0 m 17 ls [.int 1, .int 0]) (by rw [hw11]) ?_
  refine lv_icmp_ge (tgt := 41) hx hb dX0_putInOrder_17 (by decide) (fun cz => absurd cz (by decide)) (fun _ => ?_)
  refine lv_aload_n hx hb dX0_putInOrder_20 rfl (lv_at hl 1 rfl) ?_
  refine va_get (D := (dC, dI)) (ci := 2) (v := .ref h1) (C := RX0) (T := TX0) (N := 4) hx hb hts in_X0 hown hK hP 0 rfl rfl 0 (by decide) (hts _ q_28) (fun _ h9 => h9) rfl dX0_putInOrder_21 ?_
  refine lv_iload_n hx hb dX0_putInOrder_24 rfl (lv_at hl 0 rfl) ?_
  have hM15 := k24_get l hl9 dC dI z h1 h3 h4 H11.size kc0
  obtain ⟨hF13, hC16⟩ := pc_M hM15 hP hD hK hS hX hT hA [1, 2] [0] rfl rfl rfl
  refine va_callr (va_runV (As := [.int 0]) (rest := []) ⟨hx, hb, hml, hown, hts⟩ hM15 (cwV 1 hts (gV q_156 q_157 q_158 q_12 q_155) rfl rfl rfl hV_Jx4a65c_get_915e3 ⟨Nat.le_of_ble_eq_true rfl, Nat.le_of_ble_eq_true rfl⟩) ⟨pc_blind, va_recv hK hP (ci := 0) (q := (RJx4a65c, TJx4a65c, 3)) (q0 := 1) rfl rfl, fun U hU hW => ⟨rfl, hC16 U hU hW⟩⟩ rfl rfl hl.1 rfl (lv_room (Nat.le_of_ble_eq_true rfl)) dX0_putInOrder_25 ⟨(Nat.le_of_ble_eq_true rfl), (Nat.le_of_ble_eq_true rfl)⟩) hS (fun q9 _ h9 => hF13 q9 h9) hF13 (fun u17 r18 t17 H17 L17 ht17 hvm17 hw17 hB17 hz17 hk17 hS => ?_)
  obtain ⟨hr17, hB17⟩ := hB17
  have hP := pq_keep hP hD [1, 2] rfl hk17 hB17.1 ht17
  have hG : s.heap.size + 0 ≤ H17.size := Nat.le_trans hG hz17
  refine W.eq (g2 := F0 m 28 ls [.ref h4]) (by rw [hr17]) ?_
  refine va_castE (nm := RX2) hx hb hown (hts _ q_89) (va_recv hK hP (ci := 3) (q := (RX2, TX2, 19)) (q0 := 3) rfl rfl) dX0_putInOrder_28 ?_
  refine lv_iconst (v := 0) hx hb dX0_putInOrder_31 (by decide) ?_
  refine va_put (D := (dC, dI)) (ci := 3) (v := .int 0) (ty := .boolean) (C := RX2) (T := TX2) (N := 19) hx hb hts in_X2 tyX2 tyX2_ok nmX2 hown hK hP hD (va_Sre hS) 3 rfl rfl 17 (by decide) (hts _ q_159) (fun _ h9 => h9) rfl (by decide +kernel) rfl rfl (Nat.le_of_ble_eq_true rfl) dX0_putInOrder_32 (fun H19 _ hP hD hS' => ?_)
  have hG : s.heap.size + 0 ≤ H19.size := Nat.le_trans hG hS'.1
  have hS := va_Str hS hS'
  have hP : va_P (dC, dI) xCl [(h0, ce7 h1 o0 o1 h2), (h1, ce36 h3), (h3, ce35 kc0 h4), (h4, ce32 (z.2.1 0) h5 h4), (h5, ce3 z.1), (h2, ce33 z.1)] H19 := hP
  have hD := vd_as hP hD rfl
  refine lv_iinc (v := 1) (lv' := [(1, .int 1), (0, .ref h0)]) hx hb dX0_putInOrder_35 hl (k := 0) rfl (by decide) (by decide) rfl (fun ls hl => ?_)
  refine lv_goto (tgt := 9) hx hb dX0_putInOrder_38 (by decide) ?_
  refine lv_iload_n hx hb dX0_putInOrder_9 rfl (lv_at hl 0 rfl) ?_
  refine lv_aload_n hx hb dX0_putInOrder_10 rfl (lv_at hl 1 rfl) ?_
  refine va_get (D := (dC, dI)) (ci := 2) (v := .ref h1) (C := RX0) (T := TX0) (N := 4) hx hb hts in_X0 hown hK hP 0 rfl rfl 0 (by decide) (hts _ q_28) (fun _ h9 => h9) rfl dX0_putInOrder_11 ?_
  have hM22 := k20_size l hl9 dC dI z h1 h3 H19.size 1 1
  obtain ⟨hF20, hC23⟩ := pc_M hM22 hP hD hK hS hX hT hA [1] [] rfl rfl rfl
  refine va_calli (va_runV (As := []) (rest := [.int 1]) ⟨hx, hb, hml, hown, hts⟩ hM22 (cwV 0 hts (gV q_92 q_77 q_78 q_12 q_75) rfl rfl rfl hV_Jx4a65c_size_8abf5 ⟨Nat.le_of_ble_eq_true rfl, Nat.le_of_ble_eq_true rfl⟩) ⟨pc_blind, va_recv hK hP (ci := 0) (q := (RJx4a65c, TJx4a65c, 3)) (q0 := 1) rfl rfl, fun U hU hW => ⟨rfl, hC23 U hU hW⟩⟩ rfl rfl hl.1 rfl (lv_room (Nat.le_of_ble_eq_true rfl)) dX0_putInOrder_14 ⟨(Nat.le_of_ble_eq_true rfl), (Nat.le_of_ble_eq_true rfl)⟩) hS (fun q9 _ h9 => hF20 q9 h9) hF20 (fun r25 u24 t24 H24 L24 ht24 hvm24 hw24 hB24 hz24 hk24 hS => ?_)
  have hP := pq_keep hP hD [1] rfl hk24 hB24.1 ht24
  have hG : s.heap.size + 0 ≤ H24.size := Nat.le_trans hG hz24
  refine W.eq (g2 := F0 m 17 ls [.int 1, .int 1]) (by rw [hw24]) ?_
  refine lv_icmp_ge (tgt := 41) hx hb dX0_putInOrder_17 (by decide) (fun _ => ?_) (fun cz => absurd (by decide) cz)
  refine lv_iconst (v := 0) hx hb dX0_putInOrder_41 (by decide) ?_
  refine lv_istore_n (lv' := [(1, .int 0), (0, .ref h0)]) hx hb dX0_putInOrder_42 rfl hl (by decide) rfl (fun ls hl => ?_)
  refine lv_iload_n hx hb dX0_putInOrder_43 rfl (lv_at hl 0 rfl) ?_
  refine lv_bipush (v := 40) hx hb dX0_putInOrder_44 (by decide) ?_
  refine lv_icmp_ge (tgt := 76) hx hb dX0_putInOrder_46 (by decide) (fun cz => absurd cz (by decide)) (fun _ => ?_)
  refine lv_aload_n hx hb dX0_putInOrder_49 rfl (lv_at hl 1 rfl) ?_
  refine va_get (D := (dC, dI)) (ci := 2) (v := .ref h2) (C := RX0) (T := TX0) (N := 4) hx hb hts in_X0 hown hK hP 0 rfl rfl 3 (by decide) (hts _ q_31) (fun _ h9 => h9) rfl dX0_putInOrder_50 ?_
  have hM28 := k9_size l hl9 dC dI z h2 H24.size 1 0
  obtain ⟨hF26, hC29⟩ := pc_M hM28 hP hD hK hS hX hT hA [5] [] rfl rfl rfl
  refine va_calli (va_runV (As := []) (rest := []) ⟨hx, hb, hml, hown, hts⟩ hM28 (cwV 0 hts (gV q_92 q_77 q_78 q_12 q_75) rfl rfl rfl hV_Jx4a65c_size_8abf5 ⟨Nat.le_of_ble_eq_true rfl, Nat.le_of_ble_eq_true rfl⟩) ⟨pc_blind, va_recv hK hP (ci := 0) (q := (RJx4a65c, TJx4a65c, 3)) (q0 := 5) rfl rfl, fun U hU hW => ⟨rfl, hC29 U hU hW⟩⟩ rfl rfl hl.1 rfl (lv_room (Nat.le_of_ble_eq_true rfl)) dX0_putInOrder_53 ⟨(Nat.le_of_ble_eq_true rfl), (Nat.le_of_ble_eq_true rfl)⟩) hS (fun q9 _ h9 => hF26 q9 h9) hF26 (fun r31 u30 t30 H30 L30 ht30 hvm30 hw30 hB30 hz30 hk30 hS => ?_)
  have hP := pq_keep hP hD [5] rfl hk30 hB30.1 ht30
  have hG : s.heap.size + 0 ≤ H30.size := Nat.le_trans hG hz30
  refine W.eq (g2 := F0 m 56 ls [.int 0]) (by rw [hw30]) ?_
  refine lv_aload_n hx hb dX0_putInOrder_56 rfl (lv_at hl 1 rfl) ?_
  refine va_get (D := (dC, dI)) (ci := 2) (v := .ref h1) (C := RX0) (T := TX0) (N := 4) hx hb hts in_X0 hown hK hP 0 rfl rfl 0 (by decide) (hts _ q_28) (fun _ h9 => h9) rfl dX0_putInOrder_57 ?_
  have hM34 := k20_size l hl9 dC dI z h1 h3 H30.size 1 1
  obtain ⟨hF32, hC35⟩ := pc_M hM34 hP hD hK hS hX hT hA [1] [] rfl rfl rfl
  refine va_calli (va_runV (As := []) (rest := [.int 0]) ⟨hx, hb, hml, hown, hts⟩ hM34 (cwV 0 hts (gV q_92 q_77 q_78 q_12 q_75) rfl rfl rfl hV_Jx4a65c_size_8abf5 ⟨Nat.le_of_ble_eq_true rfl, Nat.le_of_ble_eq_true rfl⟩) ⟨pc_blind, va_recv hK hP (ci := 0) (q := (RJx4a65c, TJx4a65c, 3)) (q0 := 1) rfl rfl, fun U hU hW => ⟨rfl, hC35 U hU hW⟩⟩ rfl rfl hl.1 rfl (lv_room (Nat.le_of_ble_eq_true rfl)) dX0_putInOrder_60 ⟨(Nat.le_of_ble_eq_true rfl), (Nat.le_of_ble_eq_true rfl)⟩) hS (fun q9 _ h9 => hF32 q9 h9) hF32 (fun r37 u36 t36 H36 L36 ht36 hvm36 hw36 hB36 hz36 hk36 hS => ?_)
  have hP := pq_keep hP hD [1] rfl hk36 hB36.1 ht36
  have hG : s.heap.size + 0 ≤ H36.size := Nat.le_trans hG hz36
  refine W.eq (g2 := F0 m 63 ls [.int 1, .int 0]) (by rw [hw36]) ?_
  refine lv_icmp_ge (tgt := 76) hx hb dX0_putInOrder_63 (by decide) (fun cz => absurd cz (by decide)) (fun _ => ?_)
  refine lv_aload_n hx hb dX0_putInOrder_66 rfl (lv_at hl 1 rfl) ?_
  have hM40 := k30_placeThoseReady l hl9 dC dI z h0 h1 h2 h3 h4 h5 o0 o1 H36.size kc0
  obtain ⟨hF38, hC41⟩ := pc_M hM40 hP hD hK hS hX hT hA [0, 1, 5, 2, 3, 4] [0] rfl rfl rfl
  refine va_callv (va_runV (As := []) (rest := []) ⟨hx, hb, hml, hown, hts⟩ hM40 (cwV 0 hts (gV q_166 q_167 q_168 q_8 q_165) rfl rfl rfl hV_X0_placeThoseReady ⟨Nat.le_of_ble_eq_true rfl, Nat.le_of_ble_eq_true rfl⟩) ⟨pc_blind, va_recv hK hP (ci := 2) (q := (RX0, TX0, 4)) (q0 := 0) rfl rfl, fun U hU hW => ⟨rfl, hC41 U hU hW⟩⟩ rfl rfl hl.1 rfl (lv_room (Nat.le_of_ble_eq_true rfl)) dX0_putInOrder_67 ⟨(Nat.le_of_ble_eq_true rfl), (Nat.le_of_ble_eq_true rfl)⟩) hS (fun q9 _ h9 => hF38 q9 h9) hF38 (fun u42 t42 H42 L42 ht42 hvm42 hw42 hB42 hz42 hk42 hS => ?_)
  obtain ⟨a44, k45, hB42⟩ := hB42
  obtain ⟨hP, hD, hK⟩ := pq_jn (wz := [(h0, ce7 h1 o0 o1 h2), (h1, ce36 h3), (h2, ce40 a44), (h3, ce35 kc0 h4), (h4, ce38 (z.2.1 0) h5 h4), (h5, ce3 z.1), (a44, ce35 k45 h4)]) (tz := [(kc0, .object "java/lang/Object"), (k45, .object "java/lang/Object")]) hP hD hK [0, 1, 5, 2, 3, 4] [] rfl hk42 hF38 hB42.1 ht42 hvm42 rfl rfl
  have hG : s.heap.size + 1 ≤ H42.size := va_gr (g := 0) (g1 := 1) hG (by rw [← ht42]; exact hB42.2)
  refine W.widen (k := 1) (n := 10) (by decide) (by decide) ?_
  refine lv_iinc (v := 1) (lv' := [(1, .int 1), (0, .ref h0)]) hx hb dX0_putInOrder_70 hl (k := 0) rfl (by decide) (by decide) rfl (fun ls hl => ?_)
  refine lv_goto (tgt := 43) hx hb dX0_putInOrder_73 (by decide) ?_
  refine lv_iload_n hx hb dX0_putInOrder_43 rfl (lv_at hl 0 rfl) ?_
  refine lv_bipush (v := 40) hx hb dX0_putInOrder_44 (by decide) ?_
  refine lv_icmp_ge (tgt := 76) hx hb dX0_putInOrder_46 (by decide) (fun cz => absurd cz (by decide)) (fun _ => ?_)
  refine lv_aload_n hx hb dX0_putInOrder_49 rfl (lv_at hl 1 rfl) ?_
  refine va_get (D := (dC, dI)) (ci := 2) (v := .ref h2) (C := RX0) (T := TX0) (N := 4) hx hb hts in_X0 hown hK hP 0 rfl rfl 3 (by decide) (hts _ q_31) (fun _ h9 => h9) rfl dX0_putInOrder_50 ?_
  have hM48 := k20_size l hl9 dC dI z h2 a44 H42.size 2 1
  obtain ⟨hF46, hC49⟩ := pc_M hM48 hP hD hK hS hX hT hA [2] [] rfl rfl rfl
  refine va_calli (va_runV (As := []) (rest := []) ⟨hx, hb, hml, hown, hts⟩ hM48 (cwV 0 hts (gV q_92 q_77 q_78 q_12 q_75) rfl rfl rfl hV_Jx4a65c_size_8abf5 ⟨Nat.le_of_ble_eq_true rfl, Nat.le_of_ble_eq_true rfl⟩) ⟨pc_blind, va_recv hK hP (ci := 0) (q := (RJx4a65c, TJx4a65c, 3)) (q0 := 2) rfl rfl, fun U hU hW => ⟨rfl, hC49 U hU hW⟩⟩ rfl rfl hl.1 rfl (lv_room (Nat.le_of_ble_eq_true rfl)) dX0_putInOrder_53 ⟨(Nat.le_of_ble_eq_true rfl), (Nat.le_of_ble_eq_true rfl)⟩) hS (fun q9 _ h9 => hF46 q9 h9) hF46 (fun r51 u50 t50 H50 L50 ht50 hvm50 hw50 hB50 hz50 hk50 hS => ?_)
  have hP := pq_keep hP hD [2] rfl hk50 hB50.1 ht50
  have hG : s.heap.size + 1 ≤ H50.size := Nat.le_trans hG hz50
  refine W.eq (g2 := F0 m 56 ls [.int 1]) (by rw [hw50]) ?_
  refine lv_aload_n hx hb dX0_putInOrder_56 rfl (lv_at hl 1 rfl) ?_
  refine va_get (D := (dC, dI)) (ci := 2) (v := .ref h1) (C := RX0) (T := TX0) (N := 4) hx hb hts in_X0 hown hK hP 0 rfl rfl 0 (by decide) (hts _ q_28) (fun _ h9 => h9) rfl dX0_putInOrder_57 ?_
  have hM54 := k20_size l hl9 dC dI z h1 h3 H50.size 1 1
  obtain ⟨hF52, hC55⟩ := pc_M hM54 hP hD hK hS hX hT hA [1] [] rfl rfl rfl
  refine va_calli (va_runV (As := []) (rest := [.int 1]) ⟨hx, hb, hml, hown, hts⟩ hM54 (cwV 0 hts (gV q_92 q_77 q_78 q_12 q_75) rfl rfl rfl hV_Jx4a65c_size_8abf5 ⟨Nat.le_of_ble_eq_true rfl, Nat.le_of_ble_eq_true rfl⟩) ⟨pc_blind, va_recv hK hP (ci := 0) (q := (RJx4a65c, TJx4a65c, 3)) (q0 := 1) rfl rfl, fun U hU hW => ⟨rfl, hC55 U hU hW⟩⟩ rfl rfl hl.1 rfl (lv_room (Nat.le_of_ble_eq_true rfl)) dX0_putInOrder_60 ⟨(Nat.le_of_ble_eq_true rfl), (Nat.le_of_ble_eq_true rfl)⟩) hS (fun q9 _ h9 => hF52 q9 h9) hF52 (fun r57 u56 t56 H56 L56 ht56 hvm56 hw56 hB56 hz56 hk56 hS => ?_)
  have hP := pq_keep hP hD [1] rfl hk56 hB56.1 ht56
  have hG : s.heap.size + 1 ≤ H56.size := Nat.le_trans hG hz56
  refine W.eq (g2 := F0 m 63 ls [.int 1, .int 1]) (by rw [hw56]) ?_
  refine lv_icmp_ge (tgt := 76) hx hb dX0_putInOrder_63 (by decide) (fun _ => ?_) (fun cz => absurd (by decide) cz)
  exact W.vret hx hb hr (fun t9 ht9 hW9 => ⟨⟨(), rfl, trivial, ⟨a44, k45, ⟨pq_mk2 hP hD hK [0, 1, 2, 3, 4, 5, 6] [0, 1] rfl rfl rfl ht9 hW9, by rw [ht9]; exact Nat.le_trans (Nat.add_le_add_left (Nat.le_of_ble_eq_true rfl) _) hG⟩⟩⟩, hS.F ht9⟩) hS.2.2 dX0_putInOrder_76

set_option maxHeartbeats 4000000 in
set_option maxRecDepth 100000 in
theorem k32_countReaders (l : Launch) (hl9 : l.stackTraces = false) (dC : Nat → ClassId) (dI : Nat → Nat → Nat) (z : XZ) (h0 h1 h2 h3 h4 : Nat) (o0 o1 o2 : Nat) (sz : Nat) (kc0 : ClassId) : Met l yX0_countReaders (.code yX0_countReaders cX0_countReaders 3 none :: wsL_law) ({ frames := 3, cells := 0, slots := 0, locals := 64 }) (va_Pc [.ref h0] (PC (dC, dI) [(h0, ce7 h1 o0 h2 o1), (h1, ce36 h3), (h2, ce3 z.1), (h3, ce35 kc0 h4), (h4, ce38 (z.2.1 0) o2 h4)] [(kc0, .object "java/lang/Object")] sz z)) (va_Qv (fun (_ : Unit) => True) (fun (_ : Unit) (t : State) => PG (dC, dI) [(h0, ce7 h1 o0 h2 o1), (h1, ce36 h3), (h2, ce3 z.1), (h3, ce35 kc0 h4), (h4, ce38 (z.2.1 0) o2 h4)] [(kc0, .object "java/lang/Object")] (va_A [(h0, ce7 h1 o0 h2 o1), (h1, ce36 h3), (h2, ce3 z.1), (h3, ce35 kc0 h4), (h4, ce38 (z.2.1 0) o2 h4)] sz) sz 0 t) (va_A [(h0, ce7 h1 o0 h2 o1), (h1, ce36 h3), (h2, ce3 z.1), (h3, ce35 kc0 h4), (h4, ce38 (z.2.1 0) o2 h4)] sz)) 0 0 (va_A [(h0, ce7 h1 o0 h2 o1), (h1, ce36 h3), (h2, ce3 z.1), (h3, ce35 kc0 h4), (h4, ce38 (z.2.1 0) o2 h4)] sz) := by
  refine Met.ofW (cc := cX0_countReaders) (maxL := 3) (ret := none) (by decide) rfl ?_
  intro p e s m args below meth c s₁ B hml hv
  obtain ⟨rfl, hsz, hP, hK, hD0, hX, hT⟩ := hv
  have hx := B.exec
  have hb := B.bytes
  have hr := B.returns
  have hts0 := atoms_spec (ws := .code yX0_countReaders cX0_countReaders 3 none :: wsL_law) B.pre
  have hts := xTail hts0
  have hown : s.vm.findClass RX0 = some m.cls := xown B.named rfl
  have hlocks := B.notSynchronized
  subst hsz
  have hD := hD0.self (sz := s.heap.size)
  generalize hAe : va_A [(h0, ce7 h1 o0 h2 o1), (h1, ce36 h3), (h2, ce3 z.1), (h3, ce35 kc0 h4), (h4, ce38 (z.2.1 0) o2 h4)] s.heap.size = A at hD hX ⊢
  have hA : ∀ q : Nat, s.heap.size ≤ q → A q := fun q h => by rw [← hAe]; exact Or.inr h
  have hS : va_S A s.heap s.heap [] := va_S.rf
  have hG : s.heap.size + 0 ≤ s.heap.size := Nat.le_refl _
  have hl := lv_entry ([.ref h0]) (n := 3) (Nat.le_of_ble_eq_true rfl)
  rw [lg_entry_eq]
  generalize (lg_sl ([.ref h0]) ++ List.replicate (3 - (lg_sl ([.ref h0])).length) Slot.unset).toArray = ls at hl ⊢
  have hl : lv_has ls 3 [(0, .ref h0)] := hl
  refine lv_iconst (v := 0) hx hb dX0_countReaders_0 (by decide) ?_
  refine lv_istore_n (lv' := [(1, .int 0), (0, .ref h0)]) hx hb dX0_countReaders_1 rfl hl (by decide) rfl (fun ls hl => ?_)
  refine lv_iload_n hx hb dX0_countReaders_2 rfl (lv_at hl 0 rfl) ?_
  refine lv_aload_n hx hb dX0_countReaders_3 rfl (lv_at hl 1 rfl) ?_
  refine va_get (D := (dC, dI)) (ci := 2) (v := .ref h1) (C := RX0) (T := TX0) (N := 4) hx hb hts in_X0 hown hK hP 0 rfl rfl 0 (by decide) (hts _ q_28) (fun _ h9 => h9) rfl dX0_countReaders_4 ?_
  have hM3 := k20_size l hl9 dC dI z h1 h3 s.heap.size 1 1
  obtain ⟨hF1, hC4⟩ := pc_M hM3 hP hD hK hS hX hT hA [1] [] rfl rfl rfl
  refine va_calli (va_runV (As := []) (rest := [.int 0]) ⟨hx, hb, hml, hown, hts⟩ hM3 (cwV 0 hts (gV q_92 q_77 q_78 q_12 q_75) rfl rfl rfl hV_Jx4a65c_size_8abf5 ⟨Nat.le_of_ble_eq_true rfl, Nat.le_of_ble_eq_true rfl⟩) ⟨pc_blind, va_recv hK hP (ci := 0) (q := (RJx4a65c, TJx4a65c, 3)) (q0 := 1) rfl rfl, fun U hU hW => ⟨rfl, hC4 U hU hW⟩⟩ rfl rfl hl.1 rfl (lv_room (Nat.le_of_ble_eq_true rfl)) dX0_countReaders_7 ⟨(Nat.le_of_ble_eq_true rfl), (Nat.le_of_ble_eq_true rfl)⟩) hS (fun q9 _ h9 => hF1 q9 h9) hF1 (fun r6 u5 t5 H5 L5 ht5 hvm5 hw5 hB5 hz5 hk5 hS => ?_)
  have hP := pq_keep hP hD [1] rfl hk5 hB5.1 ht5
  have hG : s.heap.size + 0 ≤ H5.size := Nat.le_trans hG hz5
  refine W.eq (g2 := F0 m 10 ls [.int 1, .int 0]) (by rw [hw5]) ?_
  refine lv_icmp_ge (tgt := 34) hx hb dX0_countReaders_10 (by decide) (fun cz => absurd cz (by decide)) (fun _ => ?_)
  refine lv_aload_n hx hb dX0_countReaders_13 rfl (lv_at hl 1 rfl) ?_
  refine va_get (D := (dC, dI)) (ci := 2) (v := .ref h1) (C := RX0) (T := TX0) (N := 4) hx hb hts in_X0 hown hK hP 0 rfl rfl 0 (by decide) (hts _ q_28) (fun _ h9 => h9) rfl dX0_countReaders_14 ?_
  refine lv_iload_n hx hb dX0_countReaders_17 rfl (lv_at hl 0 rfl) ?_
  have hM9 := k24_get l hl9 dC dI z h1 h3 h4 H5.size kc0
  obtain ⟨hF7, hC10⟩ := pc_M hM9 hP hD hK hS hX hT hA [1, 3] [0] rfl rfl rfl
  refine va_callr (va_runV (As := [.int 0]) (rest := []) ⟨hx, hb, hml, hown, hts⟩ hM9 (cwV 1 hts (gV q_156 q_157 q_158 q_12 q_155) rfl rfl rfl hV_Jx4a65c_get_915e3 ⟨Nat.le_of_ble_eq_true rfl, Nat.le_of_ble_eq_true rfl⟩) ⟨pc_blind, va_recv hK hP (ci := 0) (q := (RJx4a65c, TJx4a65c, 3)) (q0 := 1) rfl rfl, fun U hU hW => ⟨rfl, hC10 U hU hW⟩⟩ rfl rfl hl.1 rfl (lv_room (Nat.le_of_ble_eq_true rfl)) dX0_countReaders_18 ⟨(Nat.le_of_ble_eq_true rfl), (Nat.le_of_ble_eq_true rfl)⟩) hS (fun q9 _ h9 => hF7 q9 h9) hF7 (fun u11 r12 t11 H11 L11 ht11 hvm11 hw11 hB11 hz11 hk11 hS => ?_)
  obtain ⟨hr11, hB11⟩ := hB11
  have hP := pq_keep hP hD [1, 3] rfl hk11 hB11.1 ht11
  have hG : s.heap.size + 0 ≤ H11.size := Nat.le_trans hG hz11
  refine W.eq (g2 := F0 m 21 ls [.ref h4]) (by rw [hr11]) ?_
  refine va_castE (nm := RX2) hx hb hown (hts _ q_89) (va_recv hK hP (ci := 3) (q := (RX2, TX2, 19)) (q0 := 4) rfl rfl) dX0_countReaders_21 ?_
  refine lv_iconst (v := 0) hx hb dX0_countReaders_24 (by decide) ?_
  refine va_put (D := (dC, dI)) (ci := 3) (v := .int 0) (ty := .int) (C := RX2) (T := TX2) (N := 19) hx hb hts in_X2 tyX2 tyX2_ok nmX2 hown hK hP hD (va_Sre hS) 4 rfl rfl 13 (by decide) (hts _ q_173) (fun _ h9 => h9) rfl (by decide +kernel) rfl rfl (Nat.le_of_ble_eq_true rfl) dX0_countReaders_25 (fun H13 _ hP hD hS' => ?_)
  have hG : s.heap.size + 0 ≤ H13.size := Nat.le_trans hG hS'.1
  have hS := va_Str hS hS'
  have hP : va_P (dC, dI) xCl [(h0, ce7 h1 o0 h2 o1), (h1, ce36 h3), (h2, ce3 z.1), (h3, ce35 kc0 h4), (h4, ce38 (z.2.1 0) o2 h4)] H13 := hP
  have hD := vd_as hP hD rfl
  refine lv_iinc (v := 1) (lv' := [(1, .int 1), (0, .ref h0)]) hx hb dX0_countReaders_28 hl (k := 0) rfl (by decide) (by decide) rfl (fun ls hl => ?_)
  refine lv_goto (tgt := 2) hx hb dX0_countReaders_31 (by decide) ?_
  refine lv_iload_n hx hb dX0_countReaders_2 rfl (lv_at hl 0 rfl) ?_
  refine lv_aload_n hx hb dX0_countReaders_3 rfl (lv_at hl 1 rfl) ?_
  refine va_get (D := (dC, dI)) (ci := 2) (v := .ref h1) (C := RX0) (T := TX0) (N := 4) hx hb hts in_X0 hown hK hP 0 rfl rfl 0 (by decide) (hts _ q_28) (fun _ h9 => h9) rfl dX0_countReaders_4 ?_
  have hM16 := k20_size l hl9 dC dI z h1 h3 H13.size 1 1
  obtain ⟨hF14, hC17⟩ := pc_M hM16 hP hD hK hS hX hT hA [1] [] rfl rfl rfl
  refine va_calli (va_runV (As := []) (rest := [.int 1]) ⟨hx, hb, hml, hown, hts⟩ hM16 (cwV 0 hts (gV q_92 q_77 q_78 q_12 q_75) rfl rfl rfl hV_Jx4a65c_size_8abf5 ⟨Nat.le_of_ble_eq_true rfl, Nat.le_of_ble_eq_true rfl⟩) ⟨pc_blind, va_recv hK hP (ci := 0) (q := (RJx4a65c, TJx4a65c, 3)) (q0 := 1) rfl rfl, fun U hU hW => ⟨rfl, hC17 U hU hW⟩⟩ rfl rfl hl.1 rfl (lv_room (Nat.le_of_ble_eq_true rfl)) dX0_countReaders_7 ⟨(Nat.le_of_ble_eq_true rfl), (Nat.le_of_ble_eq_true rfl)⟩) hS (fun q9 _ h9 => hF14 q9 h9) hF14 (fun r19 u18 t18 H18 L18 ht18 hvm18 hw18 hB18 hz18 hk18 hS => ?_)
  have hP := pq_keep hP hD [1] rfl hk18 hB18.1 ht18
  have hG : s.heap.size + 0 ≤ H18.size := Nat.le_trans hG hz18
  refine W.eq (g2 := F0 m 10 ls [.int 1, .int 1]) (by rw [hw18]) ?_
  refine lv_icmp_ge (tgt := 34) hx hb dX0_countReaders_10 (by decide) (fun _ => ?_) (fun cz => absurd (by decide) cz)
  refine lv_iconst (v := 0) hx hb dX0_countReaders_34 (by decide) ?_
  refine lv_istore_n (lv' := [(1, .int 0), (0, .ref h0)]) hx hb dX0_countReaders_35 rfl hl (by decide) rfl (fun ls hl => ?_)
  refine lv_iload_n hx hb dX0_countReaders_36 rfl (lv_at hl 0 rfl) ?_
  refine lv_aload_n hx hb dX0_countReaders_37 rfl (lv_at hl 1 rfl) ?_
  refine va_get (D := (dC, dI)) (ci := 2) (v := .ref h2) (C := RX0) (T := TX0) (N := 4) hx hb hts in_X0 hown hK hP 0 rfl rfl 2 (by decide) (hts _ q_30) (fun _ h9 => h9) rfl dX0_countReaders_38 ?_
  have hM22 := k9_size l hl9 dC dI z h2 H18.size 0 0
  obtain ⟨hF20, hC23⟩ := pc_M hM22 hP hD hK hS hX hT hA [2] [] rfl rfl rfl
  refine va_calli (va_runV (As := []) (rest := [.int 0]) ⟨hx, hb, hml, hown, hts⟩ hM22 (cwV 0 hts (gV q_92 q_77 q_78 q_12 q_75) rfl rfl rfl hV_Jx4a65c_size_8abf5 ⟨Nat.le_of_ble_eq_true rfl, Nat.le_of_ble_eq_true rfl⟩) ⟨pc_blind, va_recv hK hP (ci := 0) (q := (RJx4a65c, TJx4a65c, 3)) (q0 := 2) rfl rfl, fun U hU hW => ⟨rfl, hC23 U hU hW⟩⟩ rfl rfl hl.1 rfl (lv_room (Nat.le_of_ble_eq_true rfl)) dX0_countReaders_41 ⟨(Nat.le_of_ble_eq_true rfl), (Nat.le_of_ble_eq_true rfl)⟩) hS (fun q9 _ h9 => hF20 q9 h9) hF20 (fun r25 u24 t24 H24 L24 ht24 hvm24 hw24 hB24 hz24 hk24 hS => ?_)
  have hP := pq_keep hP hD [2] rfl hk24 hB24.1 ht24
  have hG : s.heap.size + 0 ≤ H24.size := Nat.le_trans hG hz24
  refine W.eq (g2 := F0 m 44 ls [.int 0, .int 0]) (by rw [hw24]) ?_
  refine lv_icmp_ge (tgt := 102) hx hb dX0_countReaders_44 (by decide) (fun _ => ?_) (fun cz => absurd (by decide) cz)
  exact W.vret hx hb hr (fun t9 ht9 hW9 => ⟨⟨(), rfl, trivial, ⟨pq_mk2 hP hD hK [0, 1, 2, 3, 4] [0] rfl rfl rfl ht9 hW9, by rw [ht9]; exact Nat.le_trans (Nat.add_le_add_left (Nat.le_of_ble_eq_true rfl) _) hG⟩⟩, hS.F ht9⟩) hS.2.2 dX0_countReaders_102

set_option maxHeartbeats 4000000 in
set_option maxRecDepth 100000 in
theorem k33_elementData (l : Launch) (hl9 : l.stackTraces = false) (dC : Nat → ClassId) (dI : Nat → Nat → Nat) (z : XZ) (h0 h1 : Nat) (o0 : Nat) (sz : Nat) (kc0 : ClassId) : Met l yJx4a65c_elementData_915e3 (.code yJx4a65c_elementData_915e3 cJx4a65c_elementData_915e3 2 (some (.object "java/lang/Object")) :: wsL_law) ({ frames := 0, cells := 0, slots := 0, locals := 0 }) (va_Pc [.ref h0, .int 0] (PC (dC, dI) [(h0, ce40 h1), (h1, ce35 kc0 o0)] [(kc0, .object "java/lang/Object")] sz z)) (va_Qr (fun (_ : Unit) => True) (fun (_ : Unit) (ra : Nat) (t : State) => ra = o0 ∧ PG (dC, dI) [(h0, ce40 h1), (h1, ce35 kc0 o0)] [(kc0, .object "java/lang/Object")] (va_A [(h0, ce40 h1), (h1, ce35 kc0 o0)] sz) sz 0 t) (va_A [(h0, ce40 h1), (h1, ce35 kc0 o0)] sz)) 0 0 (va_A [(h0, ce40 h1), (h1, ce35 kc0 o0)] sz) := by
  refine Met.ofW (cc := cJx4a65c_elementData_915e3) (maxL := 2) (ret := (some (.object "java/lang/Object"))) (by decide) rfl ?_
  intro p e s m args below meth c s₁ B hml hv
  obtain ⟨rfl, hsz, hP, hK, hD0, hX, hT⟩ := hv
  have hx := B.exec
  have hb := B.bytes
  have hr := B.returns
  have hts0 := atoms_spec (ws := .code yJx4a65c_elementData_915e3 cJx4a65c_elementData_915e3 2 (some (.object "java/lang/Object")) :: wsL_law) B.pre
  have hts := xTail hts0
  have hown : s.vm.findClass RJx4a65c = some m.cls := xown B.named rfl
  have hlocks := B.notSynchronized
  subst hsz
  have hD := hD0.self (sz := s.heap.size)
  generalize hAe : va_A [(h0, ce40 h1), (h1, ce35 kc0 o0)] s.heap.size = A at hD hX ⊢
  have hA : ∀ q : Nat, s.heap.size ≤ q → A q := fun q h => by rw [← hAe]; exact Or.inr h
  have hS : va_S A s.heap s.heap [] := va_S.rf
  have hG : s.heap.size + 0 ≤ s.heap.size := Nat.le_refl _
  have hl := lv_entry ([.ref h0, .int 0]) (n := 2) (Nat.le_of_ble_eq_true rfl)
  rw [lg_entry_eq]
  generalize (lg_sl ([.ref h0, .int 0]) ++ List.replicate (2 - (lg_sl ([.ref h0, .int 0])).length) Slot.unset).toArray = ls at hl ⊢
  have hl : lv_has ls 2 [(0, .ref h0), (1, .int 0)] := hl
  refine lv_aload_n hx hb dJx4a65c_elementData_915e3_0 rfl (lv_at hl 0 rfl) ?_
  refine va_get (D := (dC, dI)) (ci := 0) (v := .ref h1) (C := RJx4a65c) (T := TJx4a65c) (N := 3) hx hb hts in_Jx4a65c hown hK hP 0 rfl rfl 1 (by decide) (hts _ q_24) (fun _ h9 => h9) rfl dJx4a65c_elementData_915e3_1 ?_
  refine lv_iload_n hx hb dJx4a65c_elementData_915e3_4 rfl (lv_at hl 1 rfl) ?_
  refine va_aldq hx hb hK hP 1 0 rfl rfl (i := 0) (by unfold vp_in; decide) dJx4a65c_elementData_915e3_5 ?_
  refine W.eq (g2 := F0 m 6 ls [.ref o0]) rfl ?_
  exact W.aret (v := .ref o0) hx hb hr (by first | exact Or.inl ⟨_, rfl⟩ | exact Or.inr ⟨_, rfl⟩) (Or.inr ⟨_, rfl⟩) (fun t9 ht9 hW9 => ⟨⟨(), o0, rfl, trivial, ⟨rfl, ⟨pq_mk2 hP hD hK [0, 1] [0] rfl rfl rfl ht9 hW9, by rw [ht9]; exact Nat.le_trans (Nat.add_le_add_left (Nat.le_of_ble_eq_true rfl) _) hG⟩⟩⟩, hS.F ht9⟩) hS.2.2 dJx4a65c_elementData_915e3_6

set_option maxHeartbeats 4000000 in
set_option maxRecDepth 100000 in
theorem k34_get (l : Launch) (hl9 : l.stackTraces = false) (dC : Nat → ClassId) (dI : Nat → Nat → Nat) (z : XZ) (h0 h1 : Nat) (o0 : Nat) (sz : Nat) (kc0 : ClassId) : Met l yJx4a65c_get_915e3 (.code yJx4a65c_get_915e3 cJx4a65c_get_915e3 2 (some (.object "java/lang/Object")) :: wsL_law) ({ frames := 2, cells := 0, slots := 0, locals := 43 }) (va_Pc [.ref h0, .int 0] (PC (dC, dI) [(h0, ce40 h1), (h1, ce35 kc0 o0)] [(kc0, .object "java/lang/Object")] sz z)) (va_Qr (fun (_ : Unit) => True) (fun (_ : Unit) (ra : Nat) (t : State) => ra = o0 ∧ PG (dC, dI) [(h0, ce40 h1), (h1, ce35 kc0 o0)] [(kc0, .object "java/lang/Object")] (va_A [(h0, ce40 h1), (h1, ce35 kc0 o0)] sz) sz 0 t) (va_A [(h0, ce40 h1), (h1, ce35 kc0 o0)] sz)) 0 0 (va_A [(h0, ce40 h1), (h1, ce35 kc0 o0)] sz) := by
  refine Met.ofW (cc := cJx4a65c_get_915e3) (maxL := 2) (ret := (some (.object "java/lang/Object"))) (by decide) rfl ?_
  intro p e s m args below meth c s₁ B hml hv
  obtain ⟨rfl, hsz, hP, hK, hD0, hX, hT⟩ := hv
  have hx := B.exec
  have hb := B.bytes
  have hr := B.returns
  have hts0 := atoms_spec (ws := .code yJx4a65c_get_915e3 cJx4a65c_get_915e3 2 (some (.object "java/lang/Object")) :: wsL_law) B.pre
  have hts := xTail hts0
  have hown : s.vm.findClass RJx4a65c = some m.cls := xown B.named rfl
  have hlocks := B.notSynchronized
  subst hsz
  have hD := hD0.self (sz := s.heap.size)
  generalize hAe : va_A [(h0, ce40 h1), (h1, ce35 kc0 o0)] s.heap.size = A at hD hX ⊢
  have hA : ∀ q : Nat, s.heap.size ≤ q → A q := fun q h => by rw [← hAe]; exact Or.inr h
  have hS : va_S A s.heap s.heap [] := va_S.rf
  have hG : s.heap.size + 0 ≤ s.heap.size := Nat.le_refl _
  have hl := lv_entry ([.ref h0, .int 0]) (n := 2) (Nat.le_of_ble_eq_true rfl)
  rw [lg_entry_eq]
  generalize (lg_sl ([.ref h0, .int 0]) ++ List.replicate (2 - (lg_sl ([.ref h0, .int 0])).length) Slot.unset).toArray = ls at hl ⊢
  have hl : lv_has ls 2 [(0, .ref h0), (1, .int 0)] := hl
  refine lv_iload_n hx hb dJx4a65c_get_915e3_0 rfl (lv_at hl 1 rfl) ?_
  refine lv_aload_n hx hb dJx4a65c_get_915e3_1 rfl (lv_at hl 0 rfl) ?_
  refine va_get (D := (dC, dI)) (ci := 0) (v := .int 1) (C := RJx4a65c) (T := TJx4a65c) (N := 3) hx hb hts in_Jx4a65c hown hK hP 0 rfl rfl 2 (by decide) (hts _ q_74) (fun _ h9 => h9) rfl dJx4a65c_get_915e3_2 ?_
  have hM3 := k22_checkIndex l hl9 dC dI z s.heap.size
  obtain ⟨hF1, hC4⟩ := pc_M hM3 hP hD hK hS hX hT hA [] [] rfl rfl rfl
  refine va_calli (va_runS (As := [.int 0, .int 1]) (rest := []) ⟨hx, hb, hml, hown, hts⟩ hM3 (va_cwS 2 hts (gS q_148 q_149 q_150 q_147) rfl rfl rfl hS_J15_checkIndex_7cf53 ⟨Nat.le_of_ble_eq_true rfl, Nat.le_of_ble_eq_true rfl⟩) ⟨pc_blind, fun U hU hW => ⟨rfl, hC4 U hU hW⟩⟩ rfl rfl hl.1 rfl (lv_room (Nat.le_of_ble_eq_true rfl)) dJx4a65c_get_915e3_5 ⟨(Nat.le_of_ble_eq_true rfl), (Nat.le_of_ble_eq_true rfl)⟩) hS (fun q9 _ h9 => hF1 q9 h9) hF1 (fun r6 u5 t5 H5 L5 ht5 hvm5 hw5 hB5 hz5 hk5 hS => ?_)
  have hP := pq_keep hP hD [] rfl hk5 hB5.1 ht5
  have hG : s.heap.size + 0 ≤ H5.size := Nat.le_trans hG hz5
  refine W.eq (g2 := F0 m 8 ls [.int 0]) (by rw [hw5]) ?_
  refine lv_pop hx hb dJx4a65c_get_915e3_8 rfl ?_
  refine lv_aload_n hx hb dJx4a65c_get_915e3_9 rfl (lv_at hl 0 rfl) ?_
  refine lv_iload_n hx hb dJx4a65c_get_915e3_10 rfl (lv_at hl 1 rfl) ?_
  have hM9 := k33_elementData l hl9 dC dI z h0 h1 o0 H5.size kc0
  obtain ⟨hF7, hC10⟩ := pc_M hM9 hP hD hK hS hX hT hA [0, 1] [0] rfl rfl rfl
  refine va_callr (va_runV (As := [.int 0]) (rest := []) ⟨hx, hb, hml, hown, hts⟩ hM9 (cwV 1 hts (gV q_152 q_153 q_154 q_12 q_151) rfl rfl rfl hV_Jx4a65c_elementData_915e3 ⟨Nat.le_of_ble_eq_true rfl, Nat.le_of_ble_eq_true rfl⟩) ⟨pc_blind, va_recv hK hP (ci := 0) (q := (RJx4a65c, TJx4a65c, 3)) (q0 := 0) rfl rfl, fun U hU hW => ⟨rfl, hC10 U hU hW⟩⟩ rfl rfl hl.1 rfl (lv_room (Nat.le_of_ble_eq_true rfl)) dJx4a65c_get_915e3_11 ⟨(Nat.le_of_ble_eq_true rfl), (Nat.le_of_ble_eq_true rfl)⟩) hS (fun q9 _ h9 => hF7 q9 h9) hF7 (fun u11 r12 t11 H11 L11 ht11 hvm11 hw11 hB11 hz11 hk11 hS => ?_)
  obtain ⟨hr11, hB11⟩ := hB11
  have hP := pq_keep hP hD [0, 1] rfl hk11 hB11.1 ht11
  have hG : s.heap.size + 0 ≤ H11.size := Nat.le_trans hG hz11
  refine W.eq (g2 := F0 m 14 ls [.ref o0]) (by rw [hr11]) ?_
  exact W.aret (v := .ref o0) hx hb hr (by first | exact Or.inl ⟨_, rfl⟩ | exact Or.inr ⟨_, rfl⟩) (Or.inr ⟨_, rfl⟩) (fun t9 ht9 hW9 => ⟨⟨(), o0, rfl, trivial, ⟨rfl, ⟨pq_mk2 hP hD hK [0, 1] [0] rfl rfl rfl ht9 hW9, by rw [ht9]; exact Nat.le_trans (Nat.add_le_add_left (Nat.le_of_ble_eq_true rfl) _) hG⟩⟩⟩, hS.F ht9⟩) hS.2.2 dJx4a65c_get_915e3_14

set_option maxHeartbeats 4000000 in
set_option maxRecDepth 100000 in
theorem k35_latestArrival (l : Launch) (hl9 : l.stackTraces = false) (dC : Nat → ClassId) (dI : Nat → Nat → Nat) (z : XZ) (h0 h1 : Nat) (sz : Nat) : Met l yX2_latestArrival (.code yX2_latestArrival cX2_latestArrival 4 (some .int) :: wsL_law) ({ frames := 1, cells := 0, slots := 0, locals := 20 }) (va_Pc [.ref h0] (PC (dC, dI) [(h0, ce38 (z.2.1 0) h1 h0), (h1, ce3 z.1)] [] sz z)) (va_Qi (fun (r : Int32) (_ : Unit) => r = 0) (fun (_ : Unit) (t : State) => PG (dC, dI) [(h0, ce38 (z.2.1 0) h1 h0), (h1, ce3 z.1)] [] (va_A [(h0, ce38 (z.2.1 0) h1 h0), (h1, ce3 z.1)] sz) sz 0 t) (va_A [(h0, ce38 (z.2.1 0) h1 h0), (h1, ce3 z.1)] sz)) 0 0 (va_A [(h0, ce38 (z.2.1 0) h1 h0), (h1, ce3 z.1)] sz) := by
  refine Met.ofW (cc := cX2_latestArrival) (maxL := 4) (ret := (some .int)) (by decide) rfl ?_
  intro p e s m args below meth c s₁ B hml hv
  obtain ⟨rfl, hsz, hP, hK, hD0, hX, hT⟩ := hv
  have hx := B.exec
  have hb := B.bytes
  have hr := B.returns
  have hts0 := atoms_spec (ws := .code yX2_latestArrival cX2_latestArrival 4 (some .int) :: wsL_law) B.pre
  have hts := xTail hts0
  have hown : s.vm.findClass RX2 = some m.cls := xown B.named rfl
  have hlocks := B.notSynchronized
  subst hsz
  have hD := hD0.self (sz := s.heap.size)
  generalize hAe : va_A [(h0, ce38 (z.2.1 0) h1 h0), (h1, ce3 z.1)] s.heap.size = A at hD hX ⊢
  have hA : ∀ q : Nat, s.heap.size ≤ q → A q := fun q h => by rw [← hAe]; exact Or.inr h
  have hS : va_S A s.heap s.heap [] := va_S.rf
  have hG : s.heap.size + 0 ≤ s.heap.size := Nat.le_refl _
  have hl := lv_entry ([.ref h0]) (n := 4) (Nat.le_of_ble_eq_true rfl)
  rw [lg_entry_eq]
  generalize (lg_sl ([.ref h0]) ++ List.replicate (4 - (lg_sl ([.ref h0])).length) Slot.unset).toArray = ls at hl ⊢
  have hl : lv_has ls 4 [(0, .ref h0)] := hl
  refine lv_iconst (v := 0) hx hb dX2_latestArrival_0 (by decide) ?_
  refine lv_istore_n (lv' := [(1, .int 0), (0, .ref h0)]) hx hb dX2_latestArrival_1 rfl hl (by decide) rfl (fun ls hl => ?_)
  refine lv_iconst (v := 0) hx hb dX2_latestArrival_2 (by decide) ?_
  refine lv_istore_n (lv' := [(2, .int 0), (1, .int 0), (0, .ref h0)]) hx hb dX2_latestArrival_3 rfl hl (by decide) rfl (fun ls hl => ?_)
  refine lv_iload_n hx hb dX2_latestArrival_4 rfl (lv_at hl 0 rfl) ?_
  refine lv_aload_n hx hb dX2_latestArrival_5 rfl (lv_at hl 2 rfl) ?_
  refine va_get (D := (dC, dI)) (ci := 3) (v := .ref h1) (C := RX2) (T := TX2) (N := 19) hx hb hts in_X2 hown hK hP 0 rfl rfl 2 (by decide) (hts _ q_96) (fun _ h9 => h9) rfl dX2_latestArrival_6 ?_
  have hM3 := k9_size l hl9 dC dI z h1 s.heap.size 0 0
  obtain ⟨hF1, hC4⟩ := pc_M hM3 hP hD hK hS hX hT hA [1] [] rfl rfl rfl
  refine va_calli (va_runV (As := []) (rest := [.int 0]) ⟨hx, hb, hml, hown, hts⟩ hM3 (cwV 0 hts (gV q_160 q_77 q_78 q_12 q_75) rfl rfl rfl hV_Jx4a65c_size_8abf5 ⟨Nat.le_of_ble_eq_true rfl, Nat.le_of_ble_eq_true rfl⟩) ⟨pc_blind, va_recv hK hP (ci := 0) (q := (RJx4a65c, TJx4a65c, 3)) (q0 := 1) rfl rfl, fun U hU hW => ⟨rfl, hC4 U hU hW⟩⟩ rfl rfl hl.1 rfl (lv_room (Nat.le_of_ble_eq_true rfl)) dX2_latestArrival_9 ⟨(Nat.le_of_ble_eq_true rfl), (Nat.le_of_ble_eq_true rfl)⟩) hS (fun q9 _ h9 => hF1 q9 h9) hF1 (fun r6 u5 t5 H5 L5 ht5 hvm5 hw5 hB5 hz5 hk5 hS => ?_)
  have hP := pq_keep hP hD [1] rfl hk5 hB5.1 ht5
  have hG : s.heap.size + 0 ≤ H5.size := Nat.le_trans hG hz5
  refine W.eq (g2 := F0 m 12 ls [.int 0, .int 0]) (by rw [hw5]) ?_
  refine lv_icmp_ge (tgt := 60) hx hb dX2_latestArrival_12 (by decide) (fun _ => ?_) (fun cz => absurd (by decide) cz)
  refine lv_iload_n hx hb dX2_latestArrival_60 rfl (lv_at hl 1 rfl) ?_
  exact W.iret (v := 0) hx hb hr (fun t9 ht9 hW9 => ⟨⟨0, (), rfl, rfl, ⟨pq_mk2 hP hD hK [0, 1] [] rfl rfl rfl ht9 hW9, by rw [ht9]; exact Nat.le_trans (Nat.add_le_add_left (Nat.le_of_ble_eq_true rfl) _) hG⟩⟩, hS.F ht9⟩) hS.2.2 dX2_latestArrival_61

set_option maxHeartbeats 4000000 in
set_option maxRecDepth 100000 in
theorem k36_lengthenWaysOfRead (l : Launch) (hl9 : l.stackTraces = false) (dC : Nat → ClassId) (dI : Nat → Nat → Nat) (z : XZ) (h0 h1 : Nat) (sz : Nat) : Met l yX2_lengthenWaysOfRead (.code yX2_lengthenWaysOfRead cX2_lengthenWaysOfRead 4 none :: wsL_law) ({ frames := 1, cells := 0, slots := 0, locals := 20 }) (va_Pc [.ref h0] (PC (dC, dI) [(h0, ce38 (z.2.1 0) h1 h0), (h1, ce3 z.1)] [] sz z)) (va_Qv (fun (_ : Unit) => True) (fun (_ : Unit) (t : State) => PG (dC, dI) [(h0, ce38 (z.2.1 0) h1 h0), (h1, ce3 z.1)] [] (va_A [(h0, ce38 (z.2.1 0) h1 h0), (h1, ce3 z.1)] sz) sz 0 t) (va_A [(h0, ce38 (z.2.1 0) h1 h0), (h1, ce3 z.1)] sz)) 0 0 (va_A [(h0, ce38 (z.2.1 0) h1 h0), (h1, ce3 z.1)] sz) := by
  refine Met.ofW (cc := cX2_lengthenWaysOfRead) (maxL := 4) (ret := none) (by decide) rfl ?_
  intro p e s m args below meth c s₁ B hml hv
  obtain ⟨rfl, hsz, hP, hK, hD0, hX, hT⟩ := hv
  have hx := B.exec
  have hb := B.bytes
  have hr := B.returns
  have hts0 := atoms_spec (ws := .code yX2_lengthenWaysOfRead cX2_lengthenWaysOfRead 4 none :: wsL_law) B.pre
  have hts := xTail hts0
  have hown : s.vm.findClass RX2 = some m.cls := xown B.named rfl
  have hlocks := B.notSynchronized
  subst hsz
  have hD := hD0.self (sz := s.heap.size)
  generalize hAe : va_A [(h0, ce38 (z.2.1 0) h1 h0), (h1, ce3 z.1)] s.heap.size = A at hD hX ⊢
  have hA : ∀ q : Nat, s.heap.size ≤ q → A q := fun q h => by rw [← hAe]; exact Or.inr h
  have hS : va_S A s.heap s.heap [] := va_S.rf
  have hG : s.heap.size + 0 ≤ s.heap.size := Nat.le_refl _
  have hl := lv_entry ([.ref h0]) (n := 4) (Nat.le_of_ble_eq_true rfl)
  rw [lg_entry_eq]
  generalize (lg_sl ([.ref h0]) ++ List.replicate (4 - (lg_sl ([.ref h0])).length) Slot.unset).toArray = ls at hl ⊢
  have hl : lv_has ls 4 [(0, .ref h0)] := hl
  refine lv_iconst (v := 0) hx hb dX2_lengthenWaysOfRead_0 (by decide) ?_
  refine lv_istore_n (lv' := [(1, .int 0), (0, .ref h0)]) hx hb dX2_lengthenWaysOfRead_1 rfl hl (by decide) rfl (fun ls hl => ?_)
  refine lv_iload_n hx hb dX2_lengthenWaysOfRead_2 rfl (lv_at hl 0 rfl) ?_
  refine lv_aload_n hx hb dX2_lengthenWaysOfRead_3 rfl (lv_at hl 1 rfl) ?_
  refine va_get (D := (dC, dI)) (ci := 3) (v := .ref h1) (C := RX2) (T := TX2) (N := 19) hx hb hts in_X2 hown hK hP 0 rfl rfl 2 (by decide) (hts _ q_96) (fun _ h9 => h9) rfl dX2_lengthenWaysOfRead_4 ?_
  have hM3 := k9_size l hl9 dC dI z h1 s.heap.size 0 0
  obtain ⟨hF1, hC4⟩ := pc_M hM3 hP hD hK hS hX hT hA [1] [] rfl rfl rfl
  refine va_calli (va_runV (As := []) (rest := [.int 0]) ⟨hx, hb, hml, hown, hts⟩ hM3 (cwV 0 hts (gV q_160 q_77 q_78 q_12 q_75) rfl rfl rfl hV_Jx4a65c_size_8abf5 ⟨Nat.le_of_ble_eq_true rfl, Nat.le_of_ble_eq_true rfl⟩) ⟨pc_blind, va_recv hK hP (ci := 0) (q := (RJx4a65c, TJx4a65c, 3)) (q0 := 1) rfl rfl, fun U hU hW => ⟨rfl, hC4 U hU hW⟩⟩ rfl rfl hl.1 rfl (lv_room (Nat.le_of_ble_eq_true rfl)) dX2_lengthenWaysOfRead_7 ⟨(Nat.le_of_ble_eq_true rfl), (Nat.le_of_ble_eq_true rfl)⟩) hS (fun q9 _ h9 => hF1 q9 h9) hF1 (fun r6 u5 t5 H5 L5 ht5 hvm5 hw5 hB5 hz5 hk5 hS => ?_)
  have hP := pq_keep hP hD [1] rfl hk5 hB5.1 ht5
  have hG : s.heap.size + 0 ≤ H5.size := Nat.le_trans hG hz5
  refine W.eq (g2 := F0 m 10 ls [.int 0, .int 0]) (by rw [hw5]) ?_
  refine lv_icmp_ge (tgt := 77) hx hb dX2_lengthenWaysOfRead_10 (by decide) (fun _ => ?_) (fun cz => absurd (by decide) cz)
  exact W.vret hx hb hr (fun t9 ht9 hW9 => ⟨⟨(), rfl, trivial, ⟨pq_mk2 hP hD hK [0, 1] [] rfl rfl rfl ht9 hW9, by rw [ht9]; exact Nat.le_trans (Nat.add_le_add_left (Nat.le_of_ble_eq_true rfl) _) hG⟩⟩, hS.F ht9⟩) hS.2.2 dX2_lengthenWaysOfRead_77

set_option maxHeartbeats 4000000 in
set_option maxRecDepth 100000 in
theorem k37_reckonDelays (l : Launch) (hl9 : l.stackTraces = false) (dC : Nat → ClassId) (dI : Nat → Nat → Nat) (z : XZ) (h0 h1 h2 h3 h4 : Nat) (o0 o1 o2 : Nat) (sz : Nat) (kc0 : ClassId) : Met l yX0_reckonDelays (.code yX0_reckonDelays cX0_reckonDelays 3 none :: wsL_law) ({ frames := 3, cells := 0, slots := 0, locals := 64 }) (va_Pc [.ref h0] (PC (dC, dI) [(h0, ce7 o0 o1 o2 h1), (h1, ce40 h2), (h2, ce35 kc0 h3), (h3, ce38 (z.2.1 0) h4 h3), (h4, ce3 z.1)] [(kc0, .object "java/lang/Object")] sz z)) (va_Qv (fun (_ : Unit) => True) (fun (_ : Unit) (t : State) => PG (dC, dI) [(h0, ce7 o0 o1 o2 h1), (h1, ce40 h2), (h2, ce35 kc0 h3), (h3, ce38 (z.2.1 0) h4 h3), (h4, ce3 z.1)] [(kc0, .object "java/lang/Object")] (va_A [(h0, ce7 o0 o1 o2 h1), (h1, ce40 h2), (h2, ce35 kc0 h3), (h3, ce38 (z.2.1 0) h4 h3), (h4, ce3 z.1)] sz) sz 0 t) (va_A [(h0, ce7 o0 o1 o2 h1), (h1, ce40 h2), (h2, ce35 kc0 h3), (h3, ce38 (z.2.1 0) h4 h3), (h4, ce3 z.1)] sz)) 0 0 (va_A [(h0, ce7 o0 o1 o2 h1), (h1, ce40 h2), (h2, ce35 kc0 h3), (h3, ce38 (z.2.1 0) h4 h3), (h4, ce3 z.1)] sz) := by
  refine Met.ofW (cc := cX0_reckonDelays) (maxL := 3) (ret := none) (by decide) rfl ?_
  intro p e s m args below meth c s₁ B hml hv
  obtain ⟨rfl, hsz, hP, hK, hD0, hX, hT⟩ := hv
  have hx := B.exec
  have hb := B.bytes
  have hr := B.returns
  have hts0 := atoms_spec (ws := .code yX0_reckonDelays cX0_reckonDelays 3 none :: wsL_law) B.pre
  have hts := xTail hts0
  have hown : s.vm.findClass RX0 = some m.cls := xown B.named rfl
  have hlocks := B.notSynchronized
  subst hsz
  have hD := hD0.self (sz := s.heap.size)
  generalize hAe : va_A [(h0, ce7 o0 o1 o2 h1), (h1, ce40 h2), (h2, ce35 kc0 h3), (h3, ce38 (z.2.1 0) h4 h3), (h4, ce3 z.1)] s.heap.size = A at hD hX ⊢
  have hA : ∀ q : Nat, s.heap.size ≤ q → A q := fun q h => by rw [← hAe]; exact Or.inr h
  have hS : va_S A s.heap s.heap [] := va_S.rf
  have hG : s.heap.size + 0 ≤ s.heap.size := Nat.le_refl _
  have hl := lv_entry ([.ref h0]) (n := 3) (Nat.le_of_ble_eq_true rfl)
  rw [lg_entry_eq]
  generalize (lg_sl ([.ref h0]) ++ List.replicate (3 - (lg_sl ([.ref h0])).length) Slot.unset).toArray = ls at hl ⊢
  have hl : lv_has ls 3 [(0, .ref h0)] := hl
  refine lv_iconst (v := 0) hx hb dX0_reckonDelays_0 (by decide) ?_
  refine lv_istore_n (lv' := [(1, .int 0), (0, .ref h0)]) hx hb dX0_reckonDelays_1 rfl hl (by decide) rfl (fun ls hl => ?_)
  refine lv_iload_n hx hb dX0_reckonDelays_2 rfl (lv_at hl 0 rfl) ?_
  refine lv_aload_n hx hb dX0_reckonDelays_3 rfl (lv_at hl 1 rfl) ?_
  refine va_get (D := (dC, dI)) (ci := 2) (v := .ref h1) (C := RX0) (T := TX0) (N := 4) hx hb hts in_X0 hown hK hP 0 rfl rfl 3 (by decide) (hts _ q_31) (fun _ h9 => h9) rfl dX0_reckonDelays_4 ?_
  have hM3 := k20_size l hl9 dC dI z h1 h2 s.heap.size 2 1
  obtain ⟨hF1, hC4⟩ := pc_M hM3 hP hD hK hS hX hT hA [1] [] rfl rfl rfl
  refine va_calli (va_runV (As := []) (rest := [.int 0]) ⟨hx, hb, hml, hown, hts⟩ hM3 (cwV 0 hts (gV q_92 q_77 q_78 q_12 q_75) rfl rfl rfl hV_Jx4a65c_size_8abf5 ⟨Nat.le_of_ble_eq_true rfl, Nat.le_of_ble_eq_true rfl⟩) ⟨pc_blind, va_recv hK hP (ci := 0) (q := (RJx4a65c, TJx4a65c, 3)) (q0 := 1) rfl rfl, fun U hU hW => ⟨rfl, hC4 U hU hW⟩⟩ rfl rfl hl.1 rfl (lv_room (Nat.le_of_ble_eq_true rfl)) dX0_reckonDelays_7 ⟨(Nat.le_of_ble_eq_true rfl), (Nat.le_of_ble_eq_true rfl)⟩) hS (fun q9 _ h9 => hF1 q9 h9) hF1 (fun r6 u5 t5 H5 L5 ht5 hvm5 hw5 hB5 hz5 hk5 hS => ?_)
  have hP := pq_keep hP hD [1] rfl hk5 hB5.1 ht5
  have hG : s.heap.size + 0 ≤ H5.size := Nat.le_trans hG hz5
  refine W.eq (g2 := F0 m 10 ls [.int 1, .int 0]) (by rw [hw5]) ?_
  refine lv_icmp_ge (tgt := 44) hx hb dX0_reckonDelays_10 (by decide) (fun cz => absurd cz (by decide)) (fun _ => ?_)
  refine lv_aload_n hx hb dX0_reckonDelays_13 rfl (lv_at hl 1 rfl) ?_
  refine va_get (D := (dC, dI)) (ci := 2) (v := .ref h1) (C := RX0) (T := TX0) (N := 4) hx hb hts in_X0 hown hK hP 0 rfl rfl 3 (by decide) (hts _ q_31) (fun _ h9 => h9) rfl dX0_reckonDelays_14 ?_
  refine lv_iload_n hx hb dX0_reckonDelays_17 rfl (lv_at hl 0 rfl) ?_
  have hM9 := k34_get l hl9 dC dI z h1 h2 h3 H5.size kc0
  obtain ⟨hF7, hC10⟩ := pc_M hM9 hP hD hK hS hX hT hA [1, 2] [0] rfl rfl rfl
  refine va_callr (va_runV (As := [.int 0]) (rest := []) ⟨hx, hb, hml, hown, hts⟩ hM9 (cwV 1 hts (gV q_156 q_157 q_158 q_12 q_155) rfl rfl rfl hV_Jx4a65c_get_915e3 ⟨Nat.le_of_ble_eq_true rfl, Nat.le_of_ble_eq_true rfl⟩) ⟨pc_blind, va_recv hK hP (ci := 0) (q := (RJx4a65c, TJx4a65c, 3)) (q0 := 1) rfl rfl, fun U hU hW => ⟨rfl, hC10 U hU hW⟩⟩ rfl rfl hl.1 rfl (lv_room (Nat.le_of_ble_eq_true rfl)) dX0_reckonDelays_18 ⟨(Nat.le_of_ble_eq_true rfl), (Nat.le_of_ble_eq_true rfl)⟩) hS (fun q9 _ h9 => hF7 q9 h9) hF7 (fun u11 r12 t11 H11 L11 ht11 hvm11 hw11 hB11 hz11 hk11 hS => ?_)
  obtain ⟨hr11, hB11⟩ := hB11
  have hP := pq_keep hP hD [1, 2] rfl hk11 hB11.1 ht11
  have hG : s.heap.size + 0 ≤ H11.size := Nat.le_trans hG hz11
  refine W.eq (g2 := F0 m 21 ls [.ref h3]) (by rw [hr11]) ?_
  refine va_castE (nm := RX2) hx hb hown (hts _ q_89) (va_recv hK hP (ci := 3) (q := (RX2, TX2, 19)) (q0 := 3) rfl rfl) dX0_reckonDelays_21 ?_
  refine lv_astore_n (lv' := [(2, .ref h3), (1, .int 0), (0, .ref h0)]) hx hb dX0_reckonDelays_24 rfl hl (by decide) rfl (fun ls hl => ?_)
  refine lv_aload_n hx hb dX0_reckonDelays_25 rfl (lv_at hl 0 rfl) ?_
  refine lv_aload_n hx hb dX0_reckonDelays_26 rfl (lv_at hl 0 rfl) ?_
  have hM15 := k35_latestArrival l hl9 dC dI z h3 h4 H11.size
  obtain ⟨hF13, hC16⟩ := pc_M hM15 hP hD hK hS hX hT hA [3, 4] [] rfl rfl rfl
  refine va_calli (va_runV (As := []) (rest := [.ref h3]) ⟨hx, hb, hml, hown, hts⟩ hM15 (cwV 0 hts (gV q_179 q_180 q_181 q_91 q_178) rfl rfl rfl hV_X2_latestArrival ⟨Nat.le_of_ble_eq_true rfl, Nat.le_of_ble_eq_true rfl⟩) ⟨pc_blind, va_recv hK hP (ci := 3) (q := (RX2, TX2, 19)) (q0 := 3) rfl rfl, fun U hU hW => ⟨rfl, hC16 U hU hW⟩⟩ rfl rfl hl.1 rfl (lv_room (Nat.le_of_ble_eq_true rfl)) dX0_reckonDelays_27 ⟨(Nat.le_of_ble_eq_true rfl), (Nat.le_of_ble_eq_true rfl)⟩) hS (fun q9 _ h9 => hF13 q9 h9) hF13 (fun r18 u17 t17 H17 L17 ht17 hvm17 hw17 hB17 hz17 hk17 hS => ?_)
  have hP := pq_keep hP hD [3, 4] rfl hk17 hB17.1 ht17
  have hG : s.heap.size + 0 ≤ H17.size := Nat.le_trans hG hz17
  refine W.eq (g2 := F0 m 30 ls [.int 0, .ref h3]) (by rw [hw17]) ?_
  refine va_put (D := (dC, dI)) (ci := 3) (v := .int 0) (ty := .int) (C := RX2) (T := TX2) (N := 19) hx hb hts in_X2 tyX2 tyX2_ok nmX2 hown hK hP hD (va_Sre hS) 3 rfl rfl 14 (by decide) (hts _ q_182) (fun _ h9 => h9) rfl (by decide +kernel) rfl rfl (Nat.le_of_ble_eq_true rfl) dX0_reckonDelays_30 (fun H19 _ hP hD hS' => ?_)
  have hG : s.heap.size + 0 ≤ H19.size := Nat.le_trans hG hS'.1
  have hS := va_Str hS hS'
  have hP : va_P (dC, dI) xCl [(h0, ce7 o0 o1 o2 h1), (h1, ce40 h2), (h2, ce35 kc0 h3), (h3, ce38 (z.2.1 0) h4 h3), (h4, ce3 z.1)] H19 := hP
  have hD := vd_as hP hD rfl
  refine lv_aload_n hx hb dX0_reckonDelays_33 rfl (lv_at hl 0 rfl) ?_
  refine lv_iconst (v := 0) hx hb dX0_reckonDelays_34 (by decide) ?_
  refine va_put (D := (dC, dI)) (ci := 3) (v := .int 0) (ty := .int) (C := RX2) (T := TX2) (N := 19) hx hb hts in_X2 tyX2 tyX2_ok nmX2 hown hK hP hD (va_Sre hS) 3 rfl rfl 15 (by decide) (hts _ q_183) (fun _ h9 => h9) rfl (by decide +kernel) rfl rfl (Nat.le_of_ble_eq_true rfl) dX0_reckonDelays_35 (fun H20 _ hP hD hS' => ?_)
  have hG : s.heap.size + 0 ≤ H20.size := Nat.le_trans hG hS'.1
  have hS := va_Str hS hS'
  have hP : va_P (dC, dI) xCl [(h0, ce7 o0 o1 o2 h1), (h1, ce40 h2), (h2, ce35 kc0 h3), (h3, ce38 (z.2.1 0) h4 h3), (h4, ce3 z.1)] H20 := hP
  have hD := vd_as hP hD rfl
  refine lv_iinc (v := 1) (lv' := [(1, .int 1), (2, .ref h3), (0, .ref h0)]) hx hb dX0_reckonDelays_38 hl (k := 1) rfl (by decide) (by decide) rfl (fun ls hl => ?_)
  refine lv_goto (tgt := 2) hx hb dX0_reckonDelays_41 (by decide) ?_
  refine lv_iload_n hx hb dX0_reckonDelays_2 rfl (lv_at hl 0 rfl) ?_
  refine lv_aload_n hx hb dX0_reckonDelays_3 rfl (lv_at hl 2 rfl) ?_
  refine va_get (D := (dC, dI)) (ci := 2) (v := .ref h1) (C := RX0) (T := TX0) (N := 4) hx hb hts in_X0 hown hK hP 0 rfl rfl 3 (by decide) (hts _ q_31) (fun _ h9 => h9) rfl dX0_reckonDelays_4 ?_
  have hM23 := k20_size l hl9 dC dI z h1 h2 H20.size 2 1
  obtain ⟨hF21, hC24⟩ := pc_M hM23 hP hD hK hS hX hT hA [1] [] rfl rfl rfl
  refine va_calli (va_runV (As := []) (rest := [.int 1]) ⟨hx, hb, hml, hown, hts⟩ hM23 (cwV 0 hts (gV q_92 q_77 q_78 q_12 q_75) rfl rfl rfl hV_Jx4a65c_size_8abf5 ⟨Nat.le_of_ble_eq_true rfl, Nat.le_of_ble_eq_true rfl⟩) ⟨pc_blind, va_recv hK hP (ci := 0) (q := (RJx4a65c, TJx4a65c, 3)) (q0 := 1) rfl rfl, fun U hU hW => ⟨rfl, hC24 U hU hW⟩⟩ rfl rfl hl.1 rfl (lv_room (Nat.le_of_ble_eq_true rfl)) dX0_reckonDelays_7 ⟨(Nat.le_of_ble_eq_true rfl), (Nat.le_of_ble_eq_true rfl)⟩) hS (fun q9 _ h9 => hF21 q9 h9) hF21 (fun r26 u25 t25 H25 L25 ht25 hvm25 hw25 hB25 hz25 hk25 hS => ?_)
  have hP := pq_keep hP hD [1] rfl hk25 hB25.1 ht25
  have hG : s.heap.size + 0 ≤ H25.size := Nat.le_trans hG hz25
  refine W.eq (g2 := F0 m 10 ls [.int 1, .int 1]) (by rw [hw25]) ?_
  refine lv_icmp_ge (tgt := 44) hx hb dX0_reckonDelays_10 (by decide) (fun _ => ?_) (fun cz => absurd (by decide) cz)
  refine lv_aload_n hx hb dX0_reckonDelays_44 rfl (lv_at hl 2 rfl) ?_
  refine va_get (D := (dC, dI)) (ci := 2) (v := .ref h1) (C := RX0) (T := TX0) (N := 4) hx hb hts in_X0 hown hK hP 0 rfl rfl 3 (by decide) (hts _ q_31) (fun _ h9 => h9) rfl dX0_reckonDelays_45 ?_
  have hM29 := k20_size l hl9 dC dI z h1 h2 H25.size 2 1
  obtain ⟨hF27, hC30⟩ := pc_M hM29 hP hD hK hS hX hT hA [1] [] rfl rfl rfl
  refine va_calli (va_runV (As := []) (rest := []) ⟨hx, hb, hml, hown, hts⟩ hM29 (cwV 0 hts (gV q_92 q_77 q_78 q_12 q_75) rfl rfl rfl hV_Jx4a65c_size_8abf5 ⟨Nat.le_of_ble_eq_true rfl, Nat.le_of_ble_eq_true rfl⟩) ⟨pc_blind, va_recv hK hP (ci := 0) (q := (RJx4a65c, TJx4a65c, 3)) (q0 := 1) rfl rfl, fun U hU hW => ⟨rfl, hC30 U hU hW⟩⟩ rfl rfl hl.1 rfl (lv_room (Nat.le_of_ble_eq_true rfl)) dX0_reckonDelays_48 ⟨(Nat.le_of_ble_eq_true rfl), (Nat.le_of_ble_eq_true rfl)⟩) hS (fun q9 _ h9 => hF27 q9 h9) hF27 (fun r32 u31 t31 H31 L31 ht31 hvm31 hw31 hB31 hz31 hk31 hS => ?_)
  have hP := pq_keep hP hD [1] rfl hk31 hB31.1 ht31
  have hG : s.heap.size + 0 ≤ H31.size := Nat.le_trans hG hz31
  refine W.eq (g2 := F0 m 51 ls [.int 1]) (by rw [hw31]) ?_
  refine lv_iconst (v := 1) hx hb dX0_reckonDelays_51 (by decide) ?_
  refine lv_isub hx hb dX0_reckonDelays_52 ?_
  refine lv_topi (fun y33 ey33 => ?_)
  obtain rfl : y33 = 0 := ey33.trans (by decide)
  refine lv_istore_n (lv' := [(1, .int 0), (2, .ref h3), (0, .ref h0)]) hx hb dX0_reckonDelays_53 rfl hl (by decide) rfl (fun ls hl => ?_)
  refine lv_iload_n hx hb dX0_reckonDelays_54 rfl (lv_at hl 0 rfl) ?_
  refine lv_if_lt (tgt := 78) hx hb dX0_reckonDelays_55 (by decide) (fun cz => absurd cz (by decide)) (fun _ => ?_)
  refine lv_aload_n hx hb dX0_reckonDelays_58 rfl (lv_at hl 2 rfl) ?_
  refine va_get (D := (dC, dI)) (ci := 2) (v := .ref h1) (C := RX0) (T := TX0) (N := 4) hx hb hts in_X0 hown hK hP 0 rfl rfl 3 (by decide) (hts _ q_31) (fun _ h9 => h9) rfl dX0_reckonDelays_59 ?_
  refine lv_iload_n hx hb dX0_reckonDelays_62 rfl (lv_at hl 0 rfl) ?_
  have hM36 := k34_get l hl9 dC dI z h1 h2 h3 H31.size kc0
  obtain ⟨hF34, hC37⟩ := pc_M hM36 hP hD hK hS hX hT hA [1, 2] [0] rfl rfl rfl
  refine va_callr (va_runV (As := [.int 0]) (rest := []) ⟨hx, hb, hml, hown, hts⟩ hM36 (cwV 1 hts (gV q_156 q_157 q_158 q_12 q_155) rfl rfl rfl hV_Jx4a65c_get_915e3 ⟨Nat.le_of_ble_eq_true rfl, Nat.le_of_ble_eq_true rfl⟩) ⟨pc_blind, va_recv hK hP (ci := 0) (q := (RJx4a65c, TJx4a65c, 3)) (q0 := 1) rfl rfl, fun U hU hW => ⟨rfl, hC37 U hU hW⟩⟩ rfl rfl hl.1 rfl (lv_room (Nat.le_of_ble_eq_true rfl)) dX0_reckonDelays_63 ⟨(Nat.le_of_ble_eq_true rfl), (Nat.le_of_ble_eq_true rfl)⟩) hS (fun q9 _ h9 => hF34 q9 h9) hF34 (fun u38 r39 t38 H38 L38 ht38 hvm38 hw38 hB38 hz38 hk38 hS => ?_)
  obtain ⟨hr38, hB38⟩ := hB38
  have hP := pq_keep hP hD [1, 2] rfl hk38 hB38.1 ht38
  have hG : s.heap.size + 0 ≤ H38.size := Nat.le_trans hG hz38
  refine W.eq (g2 := F0 m 66 ls [.ref h3]) (by rw [hr38]) ?_
  refine va_castE (nm := RX2) hx hb hown (hts _ q_89) (va_recv hK hP (ci := 3) (q := (RX2, TX2, 19)) (q0 := 3) rfl rfl) dX0_reckonDelays_66 ?_
  have hM42 := k36_lengthenWaysOfRead l hl9 dC dI z h3 h4 H38.size
  obtain ⟨hF40, hC43⟩ := pc_M hM42 hP hD hK hS hX hT hA [3, 4] [] rfl rfl rfl
  refine va_callv (va_runV (As := []) (rest := []) ⟨hx, hb, hml, hown, hts⟩ hM42 (cwV 0 hts (gV q_185 q_186 q_187 q_91 q_184) rfl rfl rfl hV_X2_lengthenWaysOfRead ⟨Nat.le_of_ble_eq_true rfl, Nat.le_of_ble_eq_true rfl⟩) ⟨pc_blind, va_recv hK hP (ci := 3) (q := (RX2, TX2, 19)) (q0 := 3) rfl rfl, fun U hU hW => ⟨rfl, hC43 U hU hW⟩⟩ rfl rfl hl.1 rfl (lv_room (Nat.le_of_ble_eq_true rfl)) dX0_reckonDelays_69 ⟨(Nat.le_of_ble_eq_true rfl), (Nat.le_of_ble_eq_true rfl)⟩) hS (fun q9 _ h9 => hF40 q9 h9) hF40 (fun u44 t44 H44 L44 ht44 hvm44 hw44 hB44 hz44 hk44 hS => ?_)
  have hP := pq_keep hP hD [3, 4] rfl hk44 hB44.1 ht44
  have hG : s.heap.size + 0 ≤ H44.size := Nat.le_trans hG hz44
  refine lv_iinc (v := (-1)) (lv' := [(1, .int (-1)), (2, .ref h3), (0, .ref h0)]) hx hb dX0_reckonDelays_72 hl (k := 0) rfl (by decide) (by decide) rfl (fun ls hl => ?_)
  refine lv_goto (tgt := 54) hx hb dX0_reckonDelays_75 (by decide) ?_
  refine lv_iload_n hx hb dX0_reckonDelays_54 rfl (lv_at hl 0 rfl) ?_
  refine lv_if_lt (tgt := 78) hx hb dX0_reckonDelays_55 (by decide) (fun _ => ?_) (fun cz => absurd (by decide) cz)
  exact W.vret hx hb hr (fun t9 ht9 hW9 => ⟨⟨(), rfl, trivial, ⟨pq_mk2 hP hD hK [0, 1, 2, 3, 4] [0] rfl rfl rfl ht9 hW9, by rw [ht9]; exact Nat.le_trans (Nat.add_le_add_left (Nat.le_of_ble_eq_true rfl) _) hG⟩⟩, hS.F ht9⟩) hS.2.2 dX0_reckonDelays_78

set_option maxHeartbeats 4000000 in
set_option maxRecDepth 100000 in
theorem k38_findStandings (l : Launch) (hl9 : l.stackTraces = false) (dC : Nat → ClassId) (dI : Nat → Nat → Nat) (z : XZ) (h0 h1 h2 h3 h4 : Nat) (o0 o1 o2 : Nat) (sz : Nat) (kc0 : ClassId) : Met l yX0_findStandings (.code yX0_findStandings cX0_findStandings 5 none :: wsL_law) ({ frames := 3, cells := 0, slots := 0, locals := 64 }) (va_Pc [.ref h0] (PC (dC, dI) [(h0, ce7 h1 o0 h2 o1), (h1, ce36 h3), (h2, ce3 z.1), (h3, ce35 kc0 h4), (h4, ce38 (z.2.1 0) o2 h4)] [(kc0, .object "java/lang/Object")] sz z)) (va_Qv (fun (_ : Unit) => True) (fun (_ : Unit) (t : State) => PG (dC, dI) [(h0, ce7 h1 o0 h2 o1), (h1, ce36 h3), (h2, ce3 z.1), (h3, ce35 kc0 h4), (h4, ce38 (z.2.1 0) o2 h4)] [(kc0, .object "java/lang/Object")] (va_A [(h0, ce7 h1 o0 h2 o1), (h1, ce36 h3), (h2, ce3 z.1), (h3, ce35 kc0 h4), (h4, ce38 (z.2.1 0) o2 h4)] sz) sz 0 t) (va_A [(h0, ce7 h1 o0 h2 o1), (h1, ce36 h3), (h2, ce3 z.1), (h3, ce35 kc0 h4), (h4, ce38 (z.2.1 0) o2 h4)] sz)) 0 0 (va_A [(h0, ce7 h1 o0 h2 o1), (h1, ce36 h3), (h2, ce3 z.1), (h3, ce35 kc0 h4), (h4, ce38 (z.2.1 0) o2 h4)] sz) := by
  refine Met.ofW (cc := cX0_findStandings) (maxL := 5) (ret := none) (by decide) rfl ?_
  intro p e s m args below meth c s₁ B hml hv
  obtain ⟨rfl, hsz, hP, hK, hD0, hX, hT⟩ := hv
  have hx := B.exec
  have hb := B.bytes
  have hr := B.returns
  have hts0 := atoms_spec (ws := .code yX0_findStandings cX0_findStandings 5 none :: wsL_law) B.pre
  have hts := xTail hts0
  have hown : s.vm.findClass RX0 = some m.cls := xown B.named rfl
  have hlocks := B.notSynchronized
  subst hsz
  have hD := hD0.self (sz := s.heap.size)
  generalize hAe : va_A [(h0, ce7 h1 o0 h2 o1), (h1, ce36 h3), (h2, ce3 z.1), (h3, ce35 kc0 h4), (h4, ce38 (z.2.1 0) o2 h4)] s.heap.size = A at hD hX ⊢
  have hA : ∀ q : Nat, s.heap.size ≤ q → A q := fun q h => by rw [← hAe]; exact Or.inr h
  have hS : va_S A s.heap s.heap [] := va_S.rf
  have hG : s.heap.size + 0 ≤ s.heap.size := Nat.le_refl _
  have hl := lv_entry ([.ref h0]) (n := 5) (Nat.le_of_ble_eq_true rfl)
  rw [lg_entry_eq]
  generalize (lg_sl ([.ref h0]) ++ List.replicate (5 - (lg_sl ([.ref h0])).length) Slot.unset).toArray = ls at hl ⊢
  have hl : lv_has ls 5 [(0, .ref h0)] := hl
  refine lv_iconst (v := 0) hx hb dX0_findStandings_0 (by decide) ?_
  refine lv_istore_n (lv' := [(1, .int 0), (0, .ref h0)]) hx hb dX0_findStandings_1 rfl hl (by decide) rfl (fun ls hl => ?_)
  refine lv_iload_n hx hb dX0_findStandings_2 rfl (lv_at hl 0 rfl) ?_
  refine lv_aload_n hx hb dX0_findStandings_3 rfl (lv_at hl 1 rfl) ?_
  refine va_get (D := (dC, dI)) (ci := 2) (v := .ref h1) (C := RX0) (T := TX0) (N := 4) hx hb hts in_X0 hown hK hP 0 rfl rfl 0 (by decide) (hts _ q_28) (fun _ h9 => h9) rfl dX0_findStandings_4 ?_
  have hM3 := k20_size l hl9 dC dI z h1 h3 s.heap.size 1 1
  obtain ⟨hF1, hC4⟩ := pc_M hM3 hP hD hK hS hX hT hA [1] [] rfl rfl rfl
  refine va_calli (va_runV (As := []) (rest := [.int 0]) ⟨hx, hb, hml, hown, hts⟩ hM3 (cwV 0 hts (gV q_92 q_77 q_78 q_12 q_75) rfl rfl rfl hV_Jx4a65c_size_8abf5 ⟨Nat.le_of_ble_eq_true rfl, Nat.le_of_ble_eq_true rfl⟩) ⟨pc_blind, va_recv hK hP (ci := 0) (q := (RJx4a65c, TJx4a65c, 3)) (q0 := 1) rfl rfl, fun U hU hW => ⟨rfl, hC4 U hU hW⟩⟩ rfl rfl hl.1 rfl (lv_room (Nat.le_of_ble_eq_true rfl)) dX0_findStandings_7 ⟨(Nat.le_of_ble_eq_true rfl), (Nat.le_of_ble_eq_true rfl)⟩) hS (fun q9 _ h9 => hF1 q9 h9) hF1 (fun r6 u5 t5 H5 L5 ht5 hvm5 hw5 hB5 hz5 hk5 hS => ?_)
  have hP := pq_keep hP hD [1] rfl hk5 hB5.1 ht5
  have hG : s.heap.size + 0 ≤ H5.size := Nat.le_trans hG hz5
  refine W.eq (g2 := F0 m 10 ls [.int 1, .int 0]) (by rw [hw5]) ?_
  refine lv_icmp_ge (tgt := 44) hx hb dX0_findStandings_10 (by decide) (fun cz => absurd cz (by decide)) (fun _ => ?_)
  refine lv_aload_n hx hb dX0_findStandings_13 rfl (lv_at hl 1 rfl) ?_
  refine va_get (D := (dC, dI)) (ci := 2) (v := .ref h1) (C := RX0) (T := TX0) (N := 4) hx hb hts in_X0 hown hK hP 0 rfl rfl 0 (by decide) (hts _ q_28) (fun _ h9 => h9) rfl dX0_findStandings_14 ?_
  refine lv_iload_n hx hb dX0_findStandings_17 rfl (lv_at hl 0 rfl) ?_
  have hM9 := k24_get l hl9 dC dI z h1 h3 h4 H5.size kc0
  obtain ⟨hF7, hC10⟩ := pc_M hM9 hP hD hK hS hX hT hA [1, 3] [0] rfl rfl rfl
  refine va_callr (va_runV (As := [.int 0]) (rest := []) ⟨hx, hb, hml, hown, hts⟩ hM9 (cwV 1 hts (gV q_156 q_157 q_158 q_12 q_155) rfl rfl rfl hV_Jx4a65c_get_915e3 ⟨Nat.le_of_ble_eq_true rfl, Nat.le_of_ble_eq_true rfl⟩) ⟨pc_blind, va_recv hK hP (ci := 0) (q := (RJx4a65c, TJx4a65c, 3)) (q0 := 1) rfl rfl, fun U hU hW => ⟨rfl, hC10 U hU hW⟩⟩ rfl rfl hl.1 rfl (lv_room (Nat.le_of_ble_eq_true rfl)) dX0_findStandings_18 ⟨(Nat.le_of_ble_eq_true rfl), (Nat.le_of_ble_eq_true rfl)⟩) hS (fun q9 _ h9 => hF7 q9 h9) hF7 (fun u11 r12 t11 H11 L11 ht11 hvm11 hw11 hB11 hz11 hk11 hS => ?_)
  obtain ⟨hr11, hB11⟩ := hB11
  have hP := pq_keep hP hD [1, 3] rfl hk11 hB11.1 ht11
  have hG : s.heap.size + 0 ≤ H11.size := Nat.le_trans hG hz11
  refine W.eq (g2 := F0 m 21 ls [.ref h4]) (by rw [hr11]) ?_
  refine va_castE (nm := RX2) hx hb hown (hts _ q_89) (va_recv hK hP (ci := 3) (q := (RX2, TX2, 19)) (q0 := 4) rfl rfl) dX0_findStandings_21 ?_
  refine lv_aload_n hx hb dX0_findStandings_24 rfl (lv_at hl 1 rfl) ?_
  refine va_get (D := (dC, dI)) (ci := 2) (v := .ref h1) (C := RX0) (T := TX0) (N := 4) hx hb hts in_X0 hown hK hP 0 rfl rfl 0 (by decide) (hts _ q_28) (fun _ h9 => h9) rfl dX0_findStandings_25 ?_
  refine lv_iload_n hx hb dX0_findStandings_28 rfl (lv_at hl 0 rfl) ?_
  have hM15 := k24_get l hl9 dC dI z h1 h3 h4 H11.size kc0
  obtain ⟨hF13, hC16⟩ := pc_M hM15 hP hD hK hS hX hT hA [1, 3] [0] rfl rfl rfl
  refine va_callr (va_runV (As := [.int 0]) (rest := [.ref h4]) ⟨hx, hb, hml, hown, hts⟩ hM15 (cwV 1 hts (gV q_156 q_157 q_158 q_12 q_155) rfl rfl rfl hV_Jx4a65c_get_915e3 ⟨Nat.le_of_ble_eq_true rfl, Nat.le_of_ble_eq_true rfl⟩) ⟨pc_blind, va_recv hK hP (ci := 0) (q := (RJx4a65c, TJx4a65c, 3)) (q0 := 1) rfl rfl, fun U hU hW => ⟨rfl, hC16 U hU hW⟩⟩ rfl rfl hl.1 rfl (lv_room (Nat.le_of_ble_eq_true rfl)) dX0_findStandings_29 ⟨(Nat.le_of_ble_eq_true rfl), (Nat.le_of_ble_eq_true rfl)⟩) hS (fun q9 _ h9 => hF13 q9 h9) hF13 (fun u17 r18 t17 H17 L17 ht17 hvm17 hw17 hB17 hz17 hk17 hS => ?_)
  obtain ⟨hr17, hB17⟩ := hB17
  have hP := pq_keep hP hD [1, 3] rfl hk17 hB17.1 ht17
  have hG : s.heap.size + 0 ≤ H17.size := Nat.le_trans hG hz17
  refine W.eq (g2 := F0 m 32 ls [.ref h4, .ref h4]) (by rw [hr17]) ?_
  refine va_castE (nm := RX2) hx hb hown (hts _ q_89) (va_recv hK hP (ci := 3) (q := (RX2, TX2, 19)) (q0 := 4) rfl rfl) dX0_findStandings_32 ?_
  refine va_put (D := (dC, dI)) (ci := 3) (v := .ref h4) (ty := .object "Deltacycle$Net") (C := RX2) (T := TX2) (N := 19) hx hb hts in_X2 tyX2 tyX2_ok nmX2 hown hK hP hD (va_Sre hS) 4 rfl rfl 16 (by decide) (hts _ q_192) (fun _ h9 => h9) rfl (by decide +kernel) rfl rfl (Nat.le_of_ble_eq_true rfl) dX0_findStandings_35 (fun H19 _ hP hD hS' => ?_)
  have hG : s.heap.size + 0 ≤ H19.size := Nat.le_trans hG hS'.1
  have hS := va_Str hS hS'
  have hP : va_P (dC, dI) xCl [(h0, ce7 h1 o0 h2 o1), (h1, ce36 h3), (h2, ce3 z.1), (h3, ce35 kc0 h4), (h4, ce38 (z.2.1 0) o2 h4)] H19 := hP
  have hD := vd_as hP hD rfl
  refine lv_iinc (v := 1) (lv' := [(1, .int 1), (0, .ref h0)]) hx hb dX0_findStandings_38 hl (k := 0) rfl (by decide) (by decide) rfl (fun ls hl => ?_)
  refine lv_goto (tgt := 2) hx hb dX0_findStandings_41 (by decide) ?_
  refine lv_iload_n hx hb dX0_findStandings_2 rfl (lv_at hl 0 rfl) ?_
  refine lv_aload_n hx hb dX0_findStandings_3 rfl (lv_at hl 1 rfl) ?_
  refine va_get (D := (dC, dI)) (ci := 2) (v := .ref h1) (C := RX0) (T := TX0) (N := 4) hx hb hts in_X0 hown hK hP 0 rfl rfl 0 (by decide) (hts _ q_28) (fun _ h9 => h9) rfl dX0_findStandings_4 ?_
  have hM22 := k20_size l hl9 dC dI z h1 h3 H19.size 1 1
  obtain ⟨hF20, hC23⟩ := pc_M hM22 hP hD hK hS hX hT hA [1] [] rfl rfl rfl
  refine va_calli (va_runV (As := []) (rest := [.int 1]) ⟨hx, hb, hml, hown, hts⟩ hM22 (cwV 0 hts (gV q_92 q_77 q_78 q_12 q_75) rfl rfl rfl hV_Jx4a65c_size_8abf5 ⟨Nat.le_of_ble_eq_true rfl, Nat.le_of_ble_eq_true rfl⟩) ⟨pc_blind, va_recv hK hP (ci := 0) (q := (RJx4a65c, TJx4a65c, 3)) (q0 := 1) rfl rfl, fun U hU hW => ⟨rfl, hC23 U hU hW⟩⟩ rfl rfl hl.1 rfl (lv_room (Nat.le_of_ble_eq_true rfl)) dX0_findStandings_7 ⟨(Nat.le_of_ble_eq_true rfl), (Nat.le_of_ble_eq_true rfl)⟩) hS (fun q9 _ h9 => hF20 q9 h9) hF20 (fun r25 u24 t24 H24 L24 ht24 hvm24 hw24 hB24 hz24 hk24 hS => ?_)
  have hP := pq_keep hP hD [1] rfl hk24 hB24.1 ht24
  have hG : s.heap.size + 0 ≤ H24.size := Nat.le_trans hG hz24
  refine W.eq (g2 := F0 m 10 ls [.int 1, .int 1]) (by rw [hw24]) ?_
  refine lv_icmp_ge (tgt := 44) hx hb dX0_findStandings_10 (by decide) (fun _ => ?_) (fun cz => absurd (by decide) cz)
  refine lv_iconst (v := 0) hx hb dX0_findStandings_44 (by decide) ?_
  refine lv_istore_n (lv' := [(1, .int 0), (0, .ref h0)]) hx hb dX0_findStandings_45 rfl hl (by decide) rfl (fun ls hl => ?_)
  refine lv_iload_n hx hb dX0_findStandings_46 rfl (lv_at hl 0 rfl) ?_
  refine lv_aload_n hx hb dX0_findStandings_47 rfl (lv_at hl 1 rfl) ?_
  refine va_get (D := (dC, dI)) (ci := 2) (v := .ref h2) (C := RX0) (T := TX0) (N := 4) hx hb hts in_X0 hown hK hP 0 rfl rfl 2 (by decide) (hts _ q_30) (fun _ h9 => h9) rfl dX0_findStandings_48 ?_
  have hM28 := k9_size l hl9 dC dI z h2 H24.size 0 0
  obtain ⟨hF26, hC29⟩ := pc_M hM28 hP hD hK hS hX hT hA [2] [] rfl rfl rfl
  refine va_calli (va_runV (As := []) (rest := [.int 0]) ⟨hx, hb, hml, hown, hts⟩ hM28 (cwV 0 hts (gV q_92 q_77 q_78 q_12 q_75) rfl rfl rfl hV_Jx4a65c_size_8abf5 ⟨Nat.le_of_ble_eq_true rfl, Nat.le_of_ble_eq_true rfl⟩) ⟨pc_blind, va_recv hK hP (ci := 0) (q := (RJx4a65c, TJx4a65c, 3)) (q0 := 2) rfl rfl, fun U hU hW => ⟨rfl, hC29 U hU hW⟩⟩ rfl rfl hl.1 rfl (lv_room (Nat.le_of_ble_eq_true rfl)) dX0_findStandings_51 ⟨(Nat.le_of_ble_eq_true rfl), (Nat.le_of_ble_eq_true rfl)⟩) hS (fun q9 _ h9 => hF26 q9 h9) hF26 (fun r31 u30 t30 H30 L30 ht30 hvm30 hw30 hB30 hz30 hk30 hS => ?_)
  have hP := pq_keep hP hD [2] rfl hk30 hB30.1 ht30
  have hG : s.heap.size + 0 ≤ H30.size := Nat.le_trans hG hz30
  refine W.eq (g2 := F0 m 54 ls [.int 0, .int 0]) (by rw [hw30]) ?_
  refine lv_icmp_ge (tgt := 131) hx hb dX0_findStandings_54 (by decide) (fun _ => ?_) (fun cz => absurd (by decide) cz)
  exact W.vret hx hb hr (fun t9 ht9 hW9 => ⟨⟨(), rfl, trivial, ⟨pq_mk2 hP hD hK [0, 1, 2, 3, 4] [0] rfl rfl rfl ht9 hW9, by rw [ht9]; exact Nat.le_trans (Nat.add_le_add_left (Nat.le_of_ble_eq_true rfl) _) hG⟩⟩, hS.F ht9⟩) hS.2.2 dX0_findStandings_131

set_option maxHeartbeats 4000000 in
set_option maxRecDepth 100000 in
theorem k39_findTaken (l : Launch) (hl9 : l.stackTraces = false) (dC : Nat → ClassId) (dI : Nat → Nat → Nat) (z : XZ) (h0 h1 h2 h3 h4 h5 : Nat) (o0 o1 o2 : Nat) (sz : Nat) (kc0 kc1 : ClassId) : Met l yX0_findTaken (.code yX0_findTaken cX0_findTaken 3 none :: wsL_law) ({ frames := 3, cells := 0, slots := 0, locals := 64 }) (va_Pc [.ref h0] (PC (dC, dI) [(h0, ce7 h1 h2 o0 o1), (h1, ce36 h3), (h2, ce36 h4), (h3, ce35 kc0 h5), (h4, ce35 kc1 h5), (h5, ce38 (z.2.1 0) o2 h5)] [(kc0, .object "java/lang/Object"), (kc1, .object "java/lang/Object")] sz z)) (va_Qv (fun (_ : Unit) => True) (fun (_ : Unit) (t : State) => PG (dC, dI) [(h0, ce7 h1 h2 o0 o1), (h1, ce36 h3), (h2, ce36 h4), (h3, ce35 kc0 h5), (h4, ce35 kc1 h5), (h5, ce38 (z.2.1 0) o2 h5)] [(kc0, .object "java/lang/Object"), (kc1, .object "java/lang/Object")] (va_A [(h0, ce7 h1 h2 o0 o1), (h1, ce36 h3), (h2, ce36 h4), (h3, ce35 kc0 h5), (h4, ce35 kc1 h5), (h5, ce38 (z.2.1 0) o2 h5)] sz) sz 0 t) (va_A [(h0, ce7 h1 h2 o0 o1), (h1, ce36 h3), (h2, ce36 h4), (h3, ce35 kc0 h5), (h4, ce35 kc1 h5), (h5, ce38 (z.2.1 0) o2 h5)] sz)) 0 0 (va_A [(h0, ce7 h1 h2 o0 o1), (h1, ce36 h3), (h2, ce36 h4), (h3, ce35 kc0 h5), (h4, ce35 kc1 h5), (h5, ce38 (z.2.1 0) o2 h5)] sz) := by
  refine Met.ofW (cc := cX0_findTaken) (maxL := 3) (ret := none) (by decide) rfl ?_
  intro p e s m args below meth c s₁ B hml hv
  obtain ⟨rfl, hsz, hP, hK, hD0, hX, hT⟩ := hv
  have hx := B.exec
  have hb := B.bytes
  have hr := B.returns
  have hts0 := atoms_spec (ws := .code yX0_findTaken cX0_findTaken 3 none :: wsL_law) B.pre
  have hts := xTail hts0
  have hown : s.vm.findClass RX0 = some m.cls := xown B.named rfl
  have hlocks := B.notSynchronized
  subst hsz
  have hD := hD0.self (sz := s.heap.size)
  generalize hAe : va_A [(h0, ce7 h1 h2 o0 o1), (h1, ce36 h3), (h2, ce36 h4), (h3, ce35 kc0 h5), (h4, ce35 kc1 h5), (h5, ce38 (z.2.1 0) o2 h5)] s.heap.size = A at hD hX ⊢
  have hA : ∀ q : Nat, s.heap.size ≤ q → A q := fun q h => by rw [← hAe]; exact Or.inr h
  have hS : va_S A s.heap s.heap [] := va_S.rf
  have hG : s.heap.size + 0 ≤ s.heap.size := Nat.le_refl _
  have hl := lv_entry ([.ref h0]) (n := 3) (Nat.le_of_ble_eq_true rfl)
  rw [lg_entry_eq]
  generalize (lg_sl ([.ref h0]) ++ List.replicate (3 - (lg_sl ([.ref h0])).length) Slot.unset).toArray = ls at hl ⊢
  have hl : lv_has ls 3 [(0, .ref h0)] := hl
  refine lv_iconst (v := 0) hx hb dX0_findTaken_0 (by decide) ?_
  refine lv_istore_n (lv' := [(1, .int 0), (0, .ref h0)]) hx hb dX0_findTaken_1 rfl hl (by decide) rfl (fun ls hl => ?_)
  refine lv_iload_n hx hb dX0_findTaken_2 rfl (lv_at hl 0 rfl) ?_
  refine lv_aload_n hx hb dX0_findTaken_3 rfl (lv_at hl 1 rfl) ?_
  refine va_get (D := (dC, dI)) (ci := 2) (v := .ref h1) (C := RX0) (T := TX0) (N := 4) hx hb hts in_X0 hown hK hP 0 rfl rfl 0 (by decide) (hts _ q_28) (fun _ h9 => h9) rfl dX0_findTaken_4 ?_
  have hM3 := k20_size l hl9 dC dI z h1 h3 s.heap.size 1 1
  obtain ⟨hF1, hC4⟩ := pc_M hM3 hP hD hK hS hX hT hA [1] [] rfl rfl rfl
  refine va_calli (va_runV (As := []) (rest := [.int 0]) ⟨hx, hb, hml, hown, hts⟩ hM3 (cwV 0 hts (gV q_92 q_77 q_78 q_12 q_75) rfl rfl rfl hV_Jx4a65c_size_8abf5 ⟨Nat.le_of_ble_eq_true rfl, Nat.le_of_ble_eq_true rfl⟩) ⟨pc_blind, va_recv hK hP (ci := 0) (q := (RJx4a65c, TJx4a65c, 3)) (q0 := 1) rfl rfl, fun U hU hW => ⟨rfl, hC4 U hU hW⟩⟩ rfl rfl hl.1 rfl (lv_room (Nat.le_of_ble_eq_true rfl)) dX0_findTaken_7 ⟨(Nat.le_of_ble_eq_true rfl), (Nat.le_of_ble_eq_true rfl)⟩) hS (fun q9 _ h9 => hF1 q9 h9) hF1 (fun r6 u5 t5 H5 L5 ht5 hvm5 hw5 hB5 hz5 hk5 hS => ?_)
  have hP := pq_keep hP hD [1] rfl hk5 hB5.1 ht5
  have hG : s.heap.size + 0 ≤ H5.size := Nat.le_trans hG hz5
  refine W.eq (g2 := F0 m 10 ls [.int 1, .int 0]) (by rw [hw5]) ?_
  refine lv_icmp_ge (tgt := 34) hx hb dX0_findTaken_10 (by decide) (fun cz => absurd cz (by decide)) (fun _ => ?_)
  refine lv_aload_n hx hb dX0_findTaken_13 rfl (lv_at hl 1 rfl) ?_
  refine va_get (D := (dC, dI)) (ci := 2) (v := .ref h1) (C := RX0) (T := TX0) (N := 4) hx hb hts in_X0 hown hK hP 0 rfl rfl 0 (by decide) (hts _ q_28) (fun _ h9 => h9) rfl dX0_findTaken_14 ?_
  refine lv_iload_n hx hb dX0_findTaken_17 rfl (lv_at hl 0 rfl) ?_
  have hM9 := k24_get l hl9 dC dI z h1 h3 h5 H5.size kc0
  obtain ⟨hF7, hC10⟩ := pc_M hM9 hP hD hK hS hX hT hA [1, 3] [0] rfl rfl rfl
  refine va_callr (va_runV (As := [.int 0]) (rest := []) ⟨hx, hb, hml, hown, hts⟩ hM9 (cwV 1 hts (gV q_156 q_157 q_158 q_12 q_155) rfl rfl rfl hV_Jx4a65c_get_915e3 ⟨Nat.le_of_ble_eq_true rfl, Nat.le_of_ble_eq_true rfl⟩) ⟨pc_blind, va_recv hK hP (ci := 0) (q := (RJx4a65c, TJx4a65c, 3)) (q0 := 1) rfl rfl, fun U hU hW => ⟨rfl, hC10 U hU hW⟩⟩ rfl rfl hl.1 rfl (lv_room (Nat.le_of_ble_eq_true rfl)) dX0_findTaken_18 ⟨(Nat.le_of_ble_eq_true rfl), (Nat.le_of_ble_eq_true rfl)⟩) hS (fun q9 _ h9 => hF7 q9 h9) hF7 (fun u11 r12 t11 H11 L11 ht11 hvm11 hw11 hB11 hz11 hk11 hS => ?_)
  obtain ⟨hr11, hB11⟩ := hB11
  have hP := pq_keep hP hD [1, 3] rfl hk11 hB11.1 ht11
  have hG : s.heap.size + 0 ≤ H11.size := Nat.le_trans hG hz11
  refine W.eq (g2 := F0 m 21 ls [.ref h5]) (by rw [hr11]) ?_
  refine va_castE (nm := RX2) hx hb hown (hts _ q_89) (va_recv hK hP (ci := 3) (q := (RX2, TX2, 19)) (q0 := 5) rfl rfl) dX0_findTaken_21 ?_
  refine lv_iconst (v := 0) hx hb dX0_findTaken_24 (by decide) ?_
  refine va_put (D := (dC, dI)) (ci := 3) (v := .int 0) (ty := .boolean) (C := RX2) (T := TX2) (N := 19) hx hb hts in_X2 tyX2 tyX2_ok nmX2 hown hK hP hD (va_Sre hS) 5 rfl rfl 4 (by decide) (hts _ q_197) (fun _ h9 => h9) rfl (by decide +kernel) rfl rfl (Nat.le_of_ble_eq_true rfl) dX0_findTaken_25 (fun H13 _ hP hD hS' => ?_)
  have hG : s.heap.size + 0 ≤ H13.size := Nat.le_trans hG hS'.1
  have hS := va_Str hS hS'
  have hP : va_P (dC, dI) xCl [(h0, ce7 h1 h2 o0 o1), (h1, ce36 h3), (h2, ce36 h4), (h3, ce35 kc0 h5), (h4, ce35 kc1 h5), (h5, ce38 (z.2.1 0) o2 h5)] H13 := hP
  have hD := vd_as hP hD rfl
  refine lv_iinc (v := 1) (lv' := [(1, .int 1), (0, .ref h0)]) hx hb dX0_findTaken_28 hl (k := 0) rfl (by decide) (by decide) rfl (fun ls hl => ?_)
  refine lv_goto (tgt := 2) hx hb dX0_findTaken_31 (by decide) ?_
  refine lv_iload_n hx hb dX0_findTaken_2 rfl (lv_at hl 0 rfl) ?_
  refine lv_aload_n hx hb dX0_findTaken_3 rfl (lv_at hl 1 rfl) ?_
  refine va_get (D := (dC, dI)) (ci := 2) (v := .ref h1) (C := RX0) (T := TX0) (N := 4) hx hb hts in_X0 hown hK hP 0 rfl rfl 0 (by decide) (hts _ q_28) (fun _ h9 => h9) rfl dX0_findTaken_4 ?_
  have hM16 := k20_size l hl9 dC dI z h1 h3 H13.size 1 1
  obtain ⟨hF14, hC17⟩ := pc_M hM16 hP hD hK hS hX hT hA [1] [] rfl rfl rfl
  refine va_calli (va_runV (As := []) (rest := [.int 1]) ⟨hx, hb, hml, hown, hts⟩ hM16 (cwV 0 hts (gV q_92 q_77 q_78 q_12 q_75) rfl rfl rfl hV_Jx4a65c_size_8abf5 ⟨Nat.le_of_ble_eq_true rfl, Nat.le_of_ble_eq_true rfl⟩) ⟨pc_blind, va_recv hK hP (ci := 0) (q := (RJx4a65c, TJx4a65c, 3)) (q0 := 1) rfl rfl, fun U hU hW => ⟨rfl, hC17 U hU hW⟩⟩ rfl rfl hl.1 rfl (lv_room (Nat.le_of_ble_eq_true rfl)) dX0_findTaken_7 ⟨(Nat.le_of_ble_eq_true rfl), (Nat.le_of_ble_eq_true rfl)⟩) hS (fun q9 _ h9 => hF14 q9 h9) hF14 (fun r19 u18 t18 H18 L18 ht18 hvm18 hw18 hB18 hz18 hk18 hS => ?_)
  have hP := pq_keep hP hD [1] rfl hk18 hB18.1 ht18
  have hG : s.heap.size + 0 ≤ H18.size := Nat.le_trans hG hz18
  refine W.eq (g2 := F0 m 10 ls [.int 1, .int 1]) (by rw [hw18]) ?_
  refine lv_icmp_ge (tgt := 34) hx hb dX0_findTaken_10 (by decide) (fun _ => ?_) (fun cz => absurd (by decide) cz)
  refine lv_iconst (v := 0) hx hb dX0_findTaken_34 (by decide) ?_
  refine lv_istore_n (lv' := [(1, .int 0), (0, .ref h0)]) hx hb dX0_findTaken_35 rfl hl (by decide) rfl (fun ls hl => ?_)
  refine lv_iload_n hx hb dX0_findTaken_36 rfl (lv_at hl 0 rfl) ?_
  refine lv_aload_n hx hb dX0_findTaken_37 rfl (lv_at hl 1 rfl) ?_
  refine va_get (D := (dC, dI)) (ci := 2) (v := .ref h2) (C := RX0) (T := TX0) (N := 4) hx hb hts in_X0 hown hK hP 0 rfl rfl 1 (by decide) (hts _ q_29) (fun _ h9 => h9) rfl dX0_findTaken_38 ?_
  have hM22 := k20_size l hl9 dC dI z h2 h4 H18.size 1 1
  obtain ⟨hF20, hC23⟩ := pc_M hM22 hP hD hK hS hX hT hA [2] [] rfl rfl rfl
  refine va_calli (va_runV (As := []) (rest := [.int 0]) ⟨hx, hb, hml, hown, hts⟩ hM22 (cwV 0 hts (gV q_92 q_77 q_78 q_12 q_75) rfl rfl rfl hV_Jx4a65c_size_8abf5 ⟨Nat.le_of_ble_eq_true rfl, Nat.le_of_ble_eq_true rfl⟩) ⟨pc_blind, va_recv hK hP (ci := 0) (q := (RJx4a65c, TJx4a65c, 3)) (q0 := 2) rfl rfl, fun U hU hW => ⟨rfl, hC23 U hU hW⟩⟩ rfl rfl hl.1 rfl (lv_room (Nat.le_of_ble_eq_true rfl)) dX0_findTaken_41 ⟨(Nat.le_of_ble_eq_true rfl), (Nat.le_of_ble_eq_true rfl)⟩) hS (fun q9 _ h9 => hF20 q9 h9) hF20 (fun r25 u24 t24 H24 L24 ht24 hvm24 hw24 hB24 hz24 hk24 hS => ?_)
  have hP := pq_keep hP hD [2] rfl hk24 hB24.1 ht24
  have hG : s.heap.size + 0 ≤ H24.size := Nat.le_trans hG hz24
  refine W.eq (g2 := F0 m 44 ls [.int 1, .int 0]) (by rw [hw24]) ?_
  refine lv_icmp_ge (tgt := 77) hx hb dX0_findTaken_44 (by decide) (fun cz => absurd cz (by decide)) (fun _ => ?_)
  refine lv_aload_n hx hb dX0_findTaken_47 rfl (lv_at hl 1 rfl) ?_
  refine va_get (D := (dC, dI)) (ci := 2) (v := .ref h2) (C := RX0) (T := TX0) (N := 4) hx hb hts in_X0 hown hK hP 0 rfl rfl 1 (by decide) (hts _ q_29) (fun _ h9 => h9) rfl dX0_findTaken_48 ?_
  refine lv_iload_n hx hb dX0_findTaken_51 rfl (lv_at hl 0 rfl) ?_
  have hM28 := k24_get l hl9 dC dI z h2 h4 h5 H24.size kc1
  obtain ⟨hF26, hC29⟩ := pc_M hM28 hP hD hK hS hX hT hA [2, 4] [1] rfl rfl rfl
  refine va_callr (va_runV (As := [.int 0]) (rest := []) ⟨hx, hb, hml, hown, hts⟩ hM28 (cwV 1 hts (gV q_156 q_157 q_158 q_12 q_155) rfl rfl rfl hV_Jx4a65c_get_915e3 ⟨Nat.le_of_ble_eq_true rfl, Nat.le_of_ble_eq_true rfl⟩) ⟨pc_blind, va_recv hK hP (ci := 0) (q := (RJx4a65c, TJx4a65c, 3)) (q0 := 2) rfl rfl, fun U hU hW => ⟨rfl, hC29 U hU hW⟩⟩ rfl rfl hl.1 rfl (lv_room (Nat.le_of_ble_eq_true rfl)) dX0_findTaken_52 ⟨(Nat.le_of_ble_eq_true rfl), (Nat.le_of_ble_eq_true rfl)⟩) hS (fun q9 _ h9 => hF26 q9 h9) hF26 (fun u30 r31 t30 H30 L30 ht30 hvm30 hw30 hB30 hz30 hk30 hS => ?_)
  obtain ⟨hr30, hB30⟩ := hB30
  have hP := pq_keep hP hD [2, 4] rfl hk30 hB30.1 ht30
  have hG : s.heap.size + 0 ≤ H30.size := Nat.le_trans hG hz30
  refine W.eq (g2 := F0 m 55 ls [.ref h5]) (by rw [hr30]) ?_
  refine va_castE (nm := RX2) hx hb hown (hts _ q_89) (va_recv hK hP (ci := 3) (q := (RX2, TX2, 19)) (q0 := 5) rfl rfl) dX0_findTaken_55 ?_
  refine va_get (D := (dC, dI)) (ci := 3) (v := .null) (C := RX2) (T := TX2) (N := 19) hx hb hts in_X2 hown hK hP 5 rfl rfl 3 (by decide) (hts _ q_198) (fun _ h9 => h9) rfl dX0_findTaken_58 ?_
  refine lv_astore_nN (lv' := [(2, .null), (1, .int 0), (0, .ref h0)]) hx hb dX0_findTaken_61 rfl hl (by decide) rfl (fun ls hl => ?_)
  refine lv_aload_nN hx hb dX0_findTaken_62 rfl (lv_at hl 0 rfl) ?_
  refine lv_ifnullN (tgt := 71) hx hb dX0_findTaken_63 (by decide) ?_
  refine lv_iinc (v := 1) (lv' := [(1, .int 1), (2, .null), (0, .ref h0)]) hx hb dX0_findTaken_71 hl (k := 1) rfl (by decide) (by decide) rfl (fun ls hl => ?_)
  refine lv_goto (tgt := 36) hx hb dX0_findTaken_74 (by decide) ?_
  refine lv_iload_n hx hb dX0_findTaken_36 rfl (lv_at hl 0 rfl) ?_
  refine lv_aload_n hx hb dX0_findTaken_37 rfl (lv_at hl 2 rfl) ?_
  refine va_get (D := (dC, dI)) (ci := 2) (v := .ref h2) (C := RX0) (T := TX0) (N := 4) hx hb hts in_X0 hown hK hP 0 rfl rfl 1 (by decide) (hts _ q_29) (fun _ h9 => h9) rfl dX0_findTaken_38 ?_
  have hM34 := k20_size l hl9 dC dI z h2 h4 H30.size 1 1
  obtain ⟨hF32, hC35⟩ := pc_M hM34 hP hD hK hS hX hT hA [2] [] rfl rfl rfl
  refine va_calli (va_runV (As := []) (rest := [.int 1]) ⟨hx, hb, hml, hown, hts⟩ hM34 (cwV 0 hts (gV q_92 q_77 q_78 q_12 q_75) rfl rfl rfl hV_Jx4a65c_size_8abf5 ⟨Nat.le_of_ble_eq_true rfl, Nat.le_of_ble_eq_true rfl⟩) ⟨pc_blind, va_recv hK hP (ci := 0) (q := (RJx4a65c, TJx4a65c, 3)) (q0 := 2) rfl rfl, fun U hU hW => ⟨rfl, hC35 U hU hW⟩⟩ rfl rfl hl.1 rfl (lv_room (Nat.le_of_ble_eq_true rfl)) dX0_findTaken_41 ⟨(Nat.le_of_ble_eq_true rfl), (Nat.le_of_ble_eq_true rfl)⟩) hS (fun q9 _ h9 => hF32 q9 h9) hF32 (fun r37 u36 t36 H36 L36 ht36 hvm36 hw36 hB36 hz36 hk36 hS => ?_)
  have hP := pq_keep hP hD [2] rfl hk36 hB36.1 ht36
  have hG : s.heap.size + 0 ≤ H36.size := Nat.le_trans hG hz36
  refine W.eq (g2 := F0 m 44 ls [.int 1, .int 1]) (by rw [hw36]) ?_
  refine lv_icmp_ge (tgt := 77) hx hb dX0_findTaken_44 (by decide) (fun _ => ?_) (fun cz => absurd (by decide) cz)
  exact W.vret hx hb hr (fun t9 ht9 hW9 => ⟨⟨(), rfl, trivial, ⟨pq_mk2 hP hD hK [0, 1, 2, 3, 4, 5] [0, 1] rfl rfl rfl ht9 hW9, by rw [ht9]; exact Nat.le_trans (Nat.add_le_add_left (Nat.le_of_ble_eq_true rfl) _) hG⟩⟩, hS.F ht9⟩) hS.2.2 dX0_findTaken_77
