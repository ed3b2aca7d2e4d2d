set_option maxHeartbeats 4000000 in
set_option maxRecDepth 100000 in
theorem k267_elementData (l : Launch) (hl9 : l.stackTraces = false) (dC : Nat → ClassId) (dI : Nat → Nat → Nat) (z : XZ) (h0 h1 : Nat) (o0 o1 o2 o3 : Nat) (sz : Nat) (kc0 : ClassId) : Met l yJx4a65c_elementData_915e3 (.code yJx4a65c_elementData_915e3 cJx4a65c_elementData_915e3 2 (some (.object "java/lang/Object")) :: wsL_law) ({ frames := 0, cells := 0, slots := 0, locals := 0 }) (va_Pc [.ref h0, .int 2] (PC (dC, dI) [(h0, ce147 h1), (h1, ce146 kc0 o0 o1 o2 o3)] [(kc0, .object "java/lang/Object")] sz z)) (va_Qr (fun (_ : Unit) => True) (fun (_ : Unit) (ra : Nat) (t : State) => ra = o2 ∧ PG (dC, dI) [(h0, ce147 h1), (h1, ce146 kc0 o0 o1 o2 o3)] [(kc0, .object "java/lang/Object")] (va_A [(h0, ce147 h1), (h1, ce146 kc0 o0 o1 o2 o3)] sz) sz 0 t) (va_A [(h0, ce147 h1), (h1, ce146 kc0 o0 o1 o2 o3)] sz)) 0 0 (va_A [(h0, ce147 h1), (h1, ce146 kc0 o0 o1 o2 o3)] sz) := by
  refine Met.ofW (cc := cJx4a65c_elementData_915e3) (maxL := 2) (ret := (some (.object "java/lang/Object"))) (by decide) rfl ?_
  intro p e s m args below meth c s₁ B hml hv
  obtain ⟨rfl, hsz, hP, hK, hD0, hX, hT⟩ := hv
  have hx := B.exec
  have hb := B.bytes
  have hr := B.returns
  have hts0 := atoms_spec (ws := .code yJx4a65c_elementData_915e3 cJx4a65c_elementData_915e3 2 (some (.object "java/lang/Object")) :: wsL_law) B.pre
  have hts := xTail hts0
  have hown : s.vm.findClass RJx4a65c = some m.cls := xown B.named rfl
  have hlocks := B.notSynchronized
  subst hsz
  have hD := hD0.self (sz := s.heap.size)
  generalize hAe : va_A [(h0, ce147 h1), (h1, ce146 kc0 o0 o1 o2 o3)] s.heap.size = A at hD hX ⊢
  have hA : ∀ q : Nat, s.heap.size ≤ q → A q := fun q h => by rw [← hAe]; exact Or.inr h
  have hS : va_S A s.heap s.heap [] := va_S.rf
  have hG : s.heap.size + 0 ≤ s.heap.size := Nat.le_refl _
  have hl := lv_entry ([.ref h0, .int 2]) (n := 2) (Nat.le_of_ble_eq_true rfl)
  rw [lg_entry_eq]
  generalize (lg_sl ([.ref h0, .int 2]) ++ List.replicate (2 - (lg_sl ([.ref h0, .int 2])).length) Slot.unset).toArray = ls at hl ⊢
  have hl : lv_has ls 2 [(0, .ref h0), (1, .int 2)] := hl
  refine lv_aload_n hx hb dJx4a65c_elementData_915e3_0 rfl (lv_at hl 0 rfl) ?_
  refine va_get (D := (dC, dI)) (ci := 0) (v := .ref h1) (C := RJx4a65c) (T := TJx4a65c) (N := 3) hx hb hts in_Jx4a65c hown hK hP 0 rfl rfl 1 (by decide) (hts _ q_24) (fun _ h9 => h9) rfl dJx4a65c_elementData_915e3_1 ?_
  refine lv_iload_n hx hb dJx4a65c_elementData_915e3_4 rfl (lv_at hl 1 rfl) ?_
  refine va_aldq hx hb hK hP 1 0 rfl rfl (i := 2) (by unfold vp_in; decide) dJx4a65c_elementData_915e3_5 ?_
  refine W.eq (g2 := F0 m 6 ls [.ref o2]) rfl ?_
  exact W.aret (v := .ref o2) hx hb hr (by first | exact Or.inl ⟨_, rfl⟩ | exact Or.inr ⟨_, rfl⟩) (Or.inr ⟨_, rfl⟩) (fun t9 ht9 hW9 => ⟨⟨(), o2, rfl, trivial, ⟨rfl, ⟨pq_mk2 hP hD hK [0, 1] [0] rfl rfl rfl ht9 hW9, by rw [ht9]; exact Nat.le_trans (Nat.add_le_add_left (Nat.le_of_ble_eq_true rfl) _) hG⟩⟩⟩, hS.F ht9⟩) hS.2.2 dJx4a65c_elementData_915e3_6

set_option maxHeartbeats 4000000 in
set_option maxRecDepth 100000 in
theorem k268_get (l : Launch) (hl9 : l.stackTraces = false) (dC : Nat → ClassId) (dI : Nat → Nat → Nat) (z : XZ) (h0 h1 : Nat) (o0 o1 o2 o3 : Nat) (sz : Nat) (kc0 : ClassId) : Met l yJx4a65c_get_915e3 (.code yJx4a65c_get_915e3 cJx4a65c_get_915e3 2 (some (.object "java/lang/Object")) :: wsL_law) ({ frames := 2, cells := 0, slots := 0, locals := 43 }) (va_Pc [.ref h0, .int 2] (PC (dC, dI) [(h0, ce147 h1), (h1, ce146 kc0 o0 o1 o2 o3)] [(kc0, .object "java/lang/Object")] sz z)) (va_Qr (fun (_ : Unit) => True) (fun (_ : Unit) (ra : Nat) (t : State) => ra = o2 ∧ PG (dC, dI) [(h0, ce147 h1), (h1, ce146 kc0 o0 o1 o2 o3)] [(kc0, .object "java/lang/Object")] (va_A [(h0, ce147 h1), (h1, ce146 kc0 o0 o1 o2 o3)] sz) sz 0 t) (va_A [(h0, ce147 h1), (h1, ce146 kc0 o0 o1 o2 o3)] sz)) 0 0 (va_A [(h0, ce147 h1), (h1, ce146 kc0 o0 o1 o2 o3)] sz) := by
  refine Met.ofW (cc := cJx4a65c_get_915e3) (maxL := 2) (ret := (some (.object "java/lang/Object"))) (by decide) rfl ?_
  intro p e s m args below meth c s₁ B hml hv
  obtain ⟨rfl, hsz, hP, hK, hD0, hX, hT⟩ := hv
  have hx := B.exec
  have hb := B.bytes
  have hr := B.returns
  have hts0 := atoms_spec (ws := .code yJx4a65c_get_915e3 cJx4a65c_get_915e3 2 (some (.object "java/lang/Object")) :: wsL_law) B.pre
  have hts := xTail hts0
  have hown : s.vm.findClass RJx4a65c = some m.cls := xown B.named rfl
  have hlocks := B.notSynchronized
  subst hsz
  have hD := hD0.self (sz := s.heap.size)
  generalize hAe : va_A [(h0, ce147 h1), (h1, ce146 kc0 o0 o1 o2 o3)] s.heap.size = A at hD hX ⊢
  have hA : ∀ q : Nat, s.heap.size ≤ q → A q := fun q h => by rw [← hAe]; exact Or.inr h
  have hS : va_S A s.heap s.heap [] := va_S.rf
  have hG : s.heap.size + 0 ≤ s.heap.size := Nat.le_refl _
  have hl := lv_entry ([.ref h0, .int 2]) (n := 2) (Nat.le_of_ble_eq_true rfl)
  rw [lg_entry_eq]
  generalize (lg_sl ([.ref h0, .int 2]) ++ List.replicate (2 - (lg_sl ([.ref h0, .int 2])).length) Slot.unset).toArray = ls at hl ⊢
  have hl : lv_has ls 2 [(0, .ref h0), (1, .int 2)] := hl
  refine lv_iload_n hx hb dJx4a65c_get_915e3_0 rfl (lv_at hl 1 rfl) ?_
  refine lv_aload_n hx hb dJx4a65c_get_915e3_1 rfl (lv_at hl 0 rfl) ?_
  refine va_get (D := (dC, dI)) (ci := 0) (v := .int 4) (C := RJx4a65c) (T := TJx4a65c) (N := 3) hx hb hts in_Jx4a65c hown hK hP 0 rfl rfl 2 (by decide) (hts _ q_74) (fun _ h9 => h9) rfl dJx4a65c_get_915e3_2 ?_
  have hM3 := k266_checkIndex l hl9 dC dI z s.heap.size
  obtain ⟨hF1, hC4⟩ := pc_M hM3 hP hD hK hS hX hT hA [] [] rfl rfl rfl
  refine va_calli (va_runS (As := [.int 2, .int 4]) (rest := []) ⟨hx, hb, hml, hown, hts⟩ hM3 (va_cwS 2 hts (gS q_148 q_149 q_150 q_147) rfl rfl rfl hS_J15_checkIndex_7cf53 ⟨Nat.le_of_ble_eq_true rfl, Nat.le_of_ble_eq_true rfl⟩) ⟨pc_blind, fun U hU hW => ⟨rfl, hC4 U hU hW⟩⟩ rfl rfl hl.1 rfl (lv_room (Nat.le_of_ble_eq_true rfl)) dJx4a65c_get_915e3_5 ⟨(Nat.le_of_ble_eq_true rfl), (Nat.le_of_ble_eq_true rfl)⟩) hS (fun q9 _ h9 => hF1 q9 h9) hF1 (fun r6 u5 t5 H5 L5 ht5 hvm5 hw5 hB5 hz5 hk5 hS => ?_)
  have hP := pq_keep hP hD [] rfl hk5 hB5.1 ht5
  have hG : s.heap.size + 0 ≤ H5.size := Nat.le_trans hG hz5
  refine W.eq (g2 := F0 m 8 ls [.int 2]) (by rw [hw5]) ?_
  refine lv_pop hx hb dJx4a65c_get_915e3_8 rfl ?_
  refine lv_aload_n hx hb dJx4a65c_get_915e3_9 rfl (lv_at hl 0 rfl) ?_
  refine lv_iload_n hx hb dJx4a65c_get_915e3_10 rfl (lv_at hl 1 rfl) ?_
  have hM9 := k267_elementData l hl9 dC dI z h0 h1 o0 o1 o2 o3 H5.size kc0
  obtain ⟨hF7, hC10⟩ := pc_M hM9 hP hD hK hS hX hT hA [0, 1] [0] rfl rfl rfl
  refine va_callr (va_runV (As := [.int 2]) (rest := []) ⟨hx, hb, hml, hown, hts⟩ hM9 (cwV 1 hts (gV q_152 q_153 q_154 q_12 q_151) rfl rfl rfl hV_Jx4a65c_elementData_915e3 ⟨Nat.le_of_ble_eq_true rfl, Nat.le_of_ble_eq_true rfl⟩) ⟨pc_blind, va_recv hK hP (ci := 0) (q := (RJx4a65c, TJx4a65c, 3)) (q0 := 0) rfl rfl, fun U hU hW => ⟨rfl, hC10 U hU hW⟩⟩ rfl rfl hl.1 rfl (lv_room (Nat.le_of_ble_eq_true rfl)) dJx4a65c_get_915e3_11 ⟨(Nat.le_of_ble_eq_true rfl), (Nat.le_of_ble_eq_true rfl)⟩) hS (fun q9 _ h9 => hF7 q9 h9) hF7 (fun u11 r12 t11 H11 L11 ht11 hvm11 hw11 hB11 hz11 hk11 hS => ?_)
  obtain ⟨hr11, hB11⟩ := hB11
  have hP := pq_keep hP hD [0, 1] rfl hk11 hB11.1 ht11
  have hG : s.heap.size + 0 ≤ H11.size := Nat.le_trans hG hz11
  refine W.eq (g2 := F0 m 14 ls [.ref o2]) (by rw [hr11]) ?_
  exact W.aret (v := .ref o2) hx hb hr (by first | exact Or.inl ⟨_, rfl⟩ | exact Or.inr ⟨_, rfl⟩) (Or.inr ⟨_, rfl⟩) (fun t9 ht9 hW9 => ⟨⟨(), o2, rfl, trivial, ⟨rfl, ⟨pq_mk2 hP hD hK [0, 1] [0] rfl rfl rfl ht9 hW9, by rw [ht9]; exact Nat.le_trans (Nat.add_le_add_left (Nat.le_of_ble_eq_true rfl) _) hG⟩⟩⟩, hS.F ht9⟩) hS.2.2 dJx4a65c_get_915e3_14

set_option maxHeartbeats 4000000 in
set_option maxRecDepth 100000 in
theorem k269_checkIndex (l : Launch) (hl9 : l.stackTraces = false) (dC : Nat → ClassId) (dI : Nat → Nat → Nat) (z : XZ) (sz : Nat) : Met l yJ3_checkIndex_8e157 (.code yJ3_checkIndex_8e157 cJ3_checkIndex_8e157 3 (some .int) :: wsL_law) ({ frames := 0, cells := 0, slots := 0, locals := 0 }) (va_Pc [.int 3, .int 4, .null] (PC (dC, dI) [] [] sz z)) (va_Qi (fun (r : Int32) (_ : Unit) => r = 3) (fun (_ : Unit) (t : State) => PG (dC, dI) [] [] (va_A [] sz) sz 0 t) (va_A [] sz)) 0 0 (va_A [] sz) := by
  refine Met.ofW (cc := cJ3_checkIndex_8e157) (maxL := 3) (ret := (some .int)) (by decide) rfl ?_
  intro p e s m args below meth c s₁ B hml hv
  obtain ⟨rfl, hsz, hP, hK, hD0, hX, hT⟩ := hv
  have hx := B.exec
  have hb := B.bytes
  have hr := B.returns
  have hts0 := atoms_spec (ws := .code yJ3_checkIndex_8e157 cJ3_checkIndex_8e157 3 (some .int) :: wsL_law) B.pre
  have hts := xTail hts0
  have hown : s.vm.findClass RJ3 = some m.cls := xown B.named rfl
  have hlocks := B.notSynchronized
  subst hsz
  have hD := hD0.self (sz := s.heap.size)
  generalize hAe : va_A [] s.heap.size = A at hD hX ⊢
  have hA : ∀ q : Nat, s.heap.size ≤ q → A q := fun q h => by rw [← hAe]; exact Or.inr h
  have hS : va_S A s.heap s.heap [] := va_S.rf
  have hG : s.heap.size + 0 ≤ s.heap.size := Nat.le_refl _
  have hl := lv_entry ([.int 3, .int 4, .null]) (n := 3) (Nat.le_of_ble_eq_true rfl)
  rw [lg_entry_eq]
  generalize (lg_sl ([.int 3, .int 4, .null]) ++ List.replicate (3 - (lg_sl ([.int 3, .int 4, .null])).length) Slot.unset).toArray = ls at hl ⊢
  have hl : lv_has ls 3 [(0, .int 3), (1, .int 4), (2, .null)] := hl
  refine lv_iload_n hx hb dJ3_checkIndex_8e157_0 rfl (lv_at hl 0 rfl) ?_
  refine lv_if_lt (tgt := 9) hx hb dJ3_checkIndex_8e157_1 (by decide) (fun cz => absurd cz (by decide)) (fun _ => ?_)
  refine lv_iload_n hx hb dJ3_checkIndex_8e157_4 rfl (lv_at hl 0 rfl) ?_
  refine lv_iload_n hx hb dJ3_checkIndex_8e157_5 rfl (lv_at hl 1 rfl) ?_
  refine lv_icmp_lt (tgt := 16) hx hb dJ3_checkIndex_8e157_6 (by decide) (fun _ => ?_) (fun cz => absurd (by decide) cz)
  refine lv_iload_n hx hb dJ3_checkIndex_8e157_16 rfl (lv_at hl 0 rfl) ?_
  exact W.iret (v := 3) hx hb hr (fun t9 ht9 hW9 => ⟨⟨3, (), rfl, rfl, ⟨pq_mk2 hP hD hK [] [] rfl rfl rfl ht9 hW9, by rw [ht9]; exact Nat.le_trans (Nat.add_le_add_left (Nat.le_of_ble_eq_true rfl) _) hG⟩⟩, hS.F ht9⟩) hS.2.2 dJ3_checkIndex_8e157_17

set_option maxHeartbeats 4000000 in
set_option maxRecDepth 100000 in
theorem k270_checkIndex (l : Launch) (hl9 : l.stackTraces = false) (dC : Nat → ClassId) (dI : Nat → Nat → Nat) (z : XZ) (sz : Nat) : Met l yJ15_checkIndex_7cf53 (.code yJ15_checkIndex_7cf53 cJ15_checkIndex_7cf53 2 (some .int) :: wsL_law) ({ frames := 1, cells := 0, slots := 0, locals := 22 }) (va_Pc [.int 3, .int 4] (PC (dC, dI) [] [] sz z)) (va_Qi (fun (r : Int32) (_ : Unit) => r = 3) (fun (_ : Unit) (t : State) => PG (dC, dI) [] [] (va_A [] sz) sz 0 t) (va_A [] sz)) 0 0 (va_A [] sz) := by
  refine Met.ofW (cc := cJ15_checkIndex_7cf53) (maxL := 2) (ret := (some .int)) (by decide) rfl ?_
  intro p e s m args below meth c s₁ B hml hv
  obtain ⟨rfl, hsz, hP, hK, hD0, hX, hT⟩ := hv
  have hx := B.exec
  have hb := B.bytes
  have hr := B.returns
  have hts0 := atoms_spec (ws := .code yJ15_checkIndex_7cf53 cJ15_checkIndex_7cf53 2 (some .int) :: wsL_law) B.pre
  have hts := xTail hts0
  have hown : s.vm.findClass RJ15 = some m.cls := xown B.named rfl
  have hlocks := B.notSynchronized
  subst hsz
  have hD := hD0.self (sz := s.heap.size)
  generalize hAe : va_A [] s.heap.size = A at hD hX ⊢
  have hA : ∀ q : Nat, s.heap.size ≤ q → A q := fun q h => by rw [← hAe]; exact Or.inr h
  have hS : va_S A s.heap s.heap [] := va_S.rf
  have hG : s.heap.size + 0 ≤ s.heap.size := Nat.le_refl _
  have hl := lv_entry ([.int 3, .int 4]) (n := 2) (Nat.le_of_ble_eq_true rfl)
  rw [lg_entry_eq]
  generalize (lg_sl ([.int 3, .int 4]) ++ List.replicate (2 - (lg_sl ([.int 3, .int 4])).length) Slot.unset).toArray = ls at hl ⊢
  have hl : lv_has ls 2 [(0, .int 3), (1, .int 4)] := hl
  refine lv_iload_n hx hb dJ15_checkIndex_7cf53_0 rfl (lv_at hl 0 rfl) ?_
  refine lv_iload_n hx hb dJ15_checkIndex_7cf53_1 rfl (lv_at hl 1 rfl) ?_
  refine lv_null hx hb dJ15_checkIndex_7cf53_2 ?_
  have hM3 := k269_checkIndex l hl9 dC dI z s.heap.size
  obtain ⟨hF1, hC4⟩ := pc_M hM3 hP hD hK hS hX hT hA [] [] rfl rfl rfl
  refine va_calli (va_runS (As := [.int 3, .int 4, .null]) (rest := []) ⟨hx, hb, hml, hown, hts⟩ hM3 (va_cwS 3 hts (gS q_144 q_145 q_146 q_143) rfl rfl rfl hS_J3_checkIndex_8e157 ⟨Nat.le_of_ble_eq_true rfl, Nat.le_of_ble_eq_true rfl⟩) ⟨pc_blind, fun U hU hW => ⟨rfl, hC4 U hU hW⟩⟩ rfl rfl hl.1 rfl (lv_room (Nat.le_of_ble_eq_true rfl)) dJ15_checkIndex_7cf53_3 ⟨(Nat.le_of_ble_eq_true rfl), (Nat.le_of_ble_eq_true rfl)⟩) hS (fun q9 _ h9 => hF1 q9 h9) hF1 (fun r6 u5 t5 H5 L5 ht5 hvm5 hw5 hB5 hz5 hk5 hS => ?_)
  have hP := pq_keep hP hD [] rfl hk5 hB5.1 ht5
  have hG : s.heap.size + 0 ≤ H5.size := Nat.le_trans hG hz5
  refine W.eq (g2 := F0 m 6 ls [.int 3]) (by rw [hw5]) ?_
  exact W.iret (v := 3) hx hb hr (fun t9 ht9 hW9 => ⟨⟨3, (), rfl, rfl, ⟨pq_mk2 hP hD hK [] [] rfl rfl rfl ht9 hW9, by rw [ht9]; exact Nat.le_trans (Nat.add_le_add_left (Nat.le_of_ble_eq_true rfl) _) hG⟩⟩, hS.F ht9⟩) hS.2.2 dJ15_checkIndex_7cf53_6

set_option maxHeartbeats 4000000 in
set_option maxRecDepth 100000 in
theorem k271_elementData (l : Launch) (hl9 : l.stackTraces = false) (dC : Nat → ClassId) (dI : Nat → Nat → Nat) (z : XZ) (h0 h1 : Nat) (o0 o1 o2 o3 : Nat) (sz : Nat) (kc0 : ClassId) : Met l yJx4a65c_elementData_915e3 (.code yJx4a65c_elementData_915e3 cJx4a65c_elementData_915e3 2 (some (.object "java/lang/Object")) :: wsL_law) ({ frames := 0, cells := 0, slots := 0, locals := 0 }) (va_Pc [.ref h0, .int 3] (PC (dC, dI) [(h0, ce147 h1), (h1, ce146 kc0 o0 o1 o2 o3)] [(kc0, .object "java/lang/Object")] sz z)) (va_Qr (fun (_ : Unit) => True) (fun (_ : Unit) (ra : Nat) (t : State) => ra = o3 ∧ PG (dC, dI) [(h0, ce147 h1), (h1, ce146 kc0 o0 o1 o2 o3)] [(kc0, .object "java/lang/Object")] (va_A [(h0, ce147 h1), (h1, ce146 kc0 o0 o1 o2 o3)] sz) sz 0 t) (va_A [(h0, ce147 h1), (h1, ce146 kc0 o0 o1 o2 o3)] sz)) 0 0 (va_A [(h0, ce147 h1), (h1, ce146 kc0 o0 o1 o2 o3)] sz) := by
  refine Met.ofW (cc := cJx4a65c_elementData_915e3) (maxL := 2) (ret := (some (.object "java/lang/Object"))) (by decide) rfl ?_
  intro p e s m args below meth c s₁ B hml hv
  obtain ⟨rfl, hsz, hP, hK, hD0, hX, hT⟩ := hv
  have hx := B.exec
  have hb := B.bytes
  have hr := B.returns
  have hts0 := atoms_spec (ws := .code yJx4a65c_elementData_915e3 cJx4a65c_elementData_915e3 2 (some (.object "java/lang/Object")) :: wsL_law) B.pre
  have hts := xTail hts0
  have hown : s.vm.findClass RJx4a65c = some m.cls := xown B.named rfl
  have hlocks := B.notSynchronized
  subst hsz
  have hD := hD0.self (sz := s.heap.size)
  generalize hAe : va_A [(h0, ce147 h1), (h1, ce146 kc0 o0 o1 o2 o3)] s.heap.size = A at hD hX ⊢
  have hA : ∀ q : Nat, s.heap.size ≤ q → A q := fun q h => by rw [← hAe]; exact Or.inr h
  have hS : va_S A s.heap s.heap [] := va_S.rf
  have hG : s.heap.size + 0 ≤ s.heap.size := Nat.le_refl _
  have hl := lv_entry ([.ref h0, .int 3]) (n := 2) (Nat.le_of_ble_eq_true rfl)
  rw [lg_entry_eq]
  generalize (lg_sl ([.ref h0, .int 3]) ++ List.replicate (2 - (lg_sl ([.ref h0, .int 3])).length) Slot.unset).toArray = ls at hl ⊢
  have hl : lv_has ls 2 [(0, .ref h0), (1, .int 3)] := hl
  refine lv_aload_n hx hb dJx4a65c_elementData_915e3_0 rfl (lv_at hl 0 rfl) ?_
  refine va_get (D := (dC, dI)) (ci := 0) (v := .ref h1) (C := RJx4a65c) (T := TJx4a65c) (N := 3) hx hb hts in_Jx4a65c hown hK hP 0 rfl rfl 1 (by decide) (hts _ q_24) (fun _ h9 => h9) rfl dJx4a65c_elementData_915e3_1 ?_
  refine lv_iload_n hx hb dJx4a65c_elementData_915e3_4 rfl (lv_at hl 1 rfl) ?_
  refine va_aldq hx hb hK hP 1 0 rfl rfl (i := 3) (by unfold vp_in; decide) dJx4a65c_elementData_915e3_5 ?_
  refine W.eq (g2 := F0 m 6 ls [.ref o3]) rfl ?_
  exact W.aret (v := .ref o3) hx hb hr (by first | exact Or.inl ⟨_, rfl⟩ | exact Or.inr ⟨_, rfl⟩) (Or.inr ⟨_, rfl⟩) (fun t9 ht9 hW9 => ⟨⟨(), o3, rfl, trivial, ⟨rfl, ⟨pq_mk2 hP hD hK [0, 1] [0] rfl rfl rfl ht9 hW9, by rw [ht9]; exact Nat.le_trans (Nat.add_le_add_left (Nat.le_of_ble_eq_true rfl) _) hG⟩⟩⟩, hS.F ht9⟩) hS.2.2 dJx4a65c_elementData_915e3_6

set_option maxHeartbeats 4000000 in
set_option maxRecDepth 100000 in
theorem k272_get (l : Launch) (hl9 : l.stackTraces = false) (dC : Nat → ClassId) (dI : Nat → Nat → Nat) (z : XZ) (h0 h1 : Nat) (o0 o1 o2 o3 : Nat) (sz : Nat) (kc0 : ClassId) : Met l yJx4a65c_get_915e3 (.code yJx4a65c_get_915e3 cJx4a65c_get_915e3 2 (some (.object "java/lang/Object")) :: wsL_law) ({ frames := 2, cells := 0, slots := 0, locals := 43 }) (va_Pc [.ref h0, .int 3] (PC (dC, dI) [(h0, ce147 h1), (h1, ce146 kc0 o0 o1 o2 o3)] [(kc0, .object "java/lang/Object")] sz z)) (va_Qr (fun (_ : Unit) => True) (fun (_ : Unit) (ra : Nat) (t : State) => ra = o3 ∧ PG (dC, dI) [(h0, ce147 h1), (h1, ce146 kc0 o0 o1 o2 o3)] [(kc0, .object "java/lang/Object")] (va_A [(h0, ce147 h1), (h1, ce146 kc0 o0 o1 o2 o3)] sz) sz 0 t) (va_A [(h0, ce147 h1), (h1, ce146 kc0 o0 o1 o2 o3)] sz)) 0 0 (va_A [(h0, ce147 h1), (h1, ce146 kc0 o0 o1 o2 o3)] sz) := by
  refine Met.ofW (cc := cJx4a65c_get_915e3) (maxL := 2) (ret := (some (.object "java/lang/Object"))) (by decide) rfl ?_
  intro p e s m args below meth c s₁ B hml hv
  obtain ⟨rfl, hsz, hP, hK, hD0, hX, hT⟩ := hv
  have hx := B.exec
  have hb := B.bytes
  have hr := B.returns
  have hts0 := atoms_spec (ws := .code yJx4a65c_get_915e3 cJx4a65c_get_915e3 2 (some (.object "java/lang/Object")) :: wsL_law) B.pre
  have hts := xTail hts0
  have hown : s.vm.findClass RJx4a65c = some m.cls := xown B.named rfl
  have hlocks := B.notSynchronized
  subst hsz
  have hD := hD0.self (sz := s.heap.size)
  generalize hAe : va_A [(h0, ce147 h1), (h1, ce146 kc0 o0 o1 o2 o3)] s.heap.size = A at hD hX ⊢
  have hA : ∀ q : Nat, s.heap.size ≤ q → A q := fun q h => by rw [← hAe]; exact Or.inr h
  have hS : va_S A s.heap s.heap [] := va_S.rf
  have hG : s.heap.size + 0 ≤ s.heap.size := Nat.le_refl _
  have hl := lv_entry ([.ref h0, .int 3]) (n := 2) (Nat.le_of_ble_eq_true rfl)
  rw [lg_entry_eq]
  generalize (lg_sl ([.ref h0, .int 3]) ++ List.replicate (2 - (lg_sl ([.ref h0, .int 3])).length) Slot.unset).toArray = ls at hl ⊢
  have hl : lv_has ls 2 [(0, .ref h0), (1, .int 3)] := hl
  refine lv_iload_n hx hb dJx4a65c_get_915e3_0 rfl (lv_at hl 1 rfl) ?_
  refine lv_aload_n hx hb dJx4a65c_get_915e3_1 rfl (lv_at hl 0 rfl) ?_
  refine va_get (D := (dC, dI)) (ci := 0) (v := .int 4) (C := RJx4a65c) (T := TJx4a65c) (N := 3) hx hb hts in_Jx4a65c hown hK hP 0 rfl rfl 2 (by decide) (hts _ q_74) (fun _ h9 => h9) rfl dJx4a65c_get_915e3_2 ?_
  have hM3 := k270_checkIndex l hl9 dC dI z s.heap.size
  obtain ⟨hF1, hC4⟩ := pc_M hM3 hP hD hK hS hX hT hA [] [] rfl rfl rfl
  refine va_calli (va_runS (As := [.int 3, .int 4]) (rest := []) ⟨hx, hb, hml, hown, hts⟩ hM3 (va_cwS 2 hts (gS q_148 q_149 q_150 q_147) rfl rfl rfl hS_J15_checkIndex_7cf53 ⟨Nat.le_of_ble_eq_true rfl, Nat.le_of_ble_eq_true rfl⟩) ⟨pc_blind, fun U hU hW => ⟨rfl, hC4 U hU hW⟩⟩ rfl rfl hl.1 rfl (lv_room (Nat.le_of_ble_eq_true rfl)) dJx4a65c_get_915e3_5 ⟨(Nat.le_of_ble_eq_true rfl), (Nat.le_of_ble_eq_true rfl)⟩) hS (fun q9 _ h9 => hF1 q9 h9) hF1 (fun r6 u5 t5 H5 L5 ht5 hvm5 hw5 hB5 hz5 hk5 hS => ?_)
  have hP := pq_keep hP hD [] rfl hk5 hB5.1 ht5
  have hG : s.heap.size + 0 ≤ H5.size := Nat.le_trans hG hz5
  refine W.eq (g2 := F0 m 8 ls [.int 3]) (by rw [hw5]) ?_
  refine lv_pop hx hb dJx4a65c_get_915e3_8 rfl ?_
  refine lv_aload_n hx hb dJx4a65c_get_915e3_9 rfl (lv_at hl 0 rfl) ?_
  refine lv_iload_n hx hb dJx4a65c_get_915e3_10 rfl (lv_at hl 1 rfl) ?_
  have hM9 := k271_elementData l hl9 dC dI z h0 h1 o0 o1 o2 o3 H5.size kc0
  obtain ⟨hF7, hC10⟩ := pc_M hM9 hP hD hK hS hX hT hA [0, 1] [0] rfl rfl rfl
  refine va_callr (va_runV (As := [.int 3]) (rest := []) ⟨hx, hb, hml, hown, hts⟩ hM9 (cwV 1 hts (gV q_152 q_153 q_154 q_12 q_151) rfl rfl rfl hV_Jx4a65c_elementData_915e3 ⟨Nat.le_of_ble_eq_true rfl, Nat.le_of_ble_eq_true rfl⟩) ⟨pc_blind, va_recv hK hP (ci := 0) (q := (RJx4a65c, TJx4a65c, 3)) (q0 := 0) rfl rfl, fun U hU hW => ⟨rfl, hC10 U hU hW⟩⟩ rfl rfl hl.1 rfl (lv_room (Nat.le_of_ble_eq_true rfl)) dJx4a65c_get_915e3_11 ⟨(Nat.le_of_ble_eq_true rfl), (Nat.le_of_ble_eq_true rfl)⟩) hS (fun q9 _ h9 => hF7 q9 h9) hF7 (fun u11 r12 t11 H11 L11 ht11 hvm11 hw11 hB11 hz11 hk11 hS => ?_)
  obtain ⟨hr11, hB11⟩ := hB11
  have hP := pq_keep hP hD [0, 1] rfl hk11 hB11.1 ht11
  have hG : s.heap.size + 0 ≤ H11.size := Nat.le_trans hG hz11
  refine W.eq (g2 := F0 m 14 ls [.ref o3]) (by rw [hr11]) ?_
  exact W.aret (v := .ref o3) hx hb hr (by first | exact Or.inl ⟨_, rfl⟩ | exact Or.inr ⟨_, rfl⟩) (Or.inr ⟨_, rfl⟩) (fun t9 ht9 hW9 => ⟨⟨(), o3, rfl, trivial, ⟨rfl, ⟨pq_mk2 hP hD hK [0, 1] [0] rfl rfl rfl ht9 hW9, by rw [ht9]; exact Nat.le_trans (Nat.add_le_add_left (Nat.le_of_ble_eq_true rfl) _) hG⟩⟩⟩, hS.F ht9⟩) hS.2.2 dJx4a65c_get_915e3_14

set_option maxHeartbeats 4000000 in
set_option maxRecDepth 100000 in
theorem k273_add (l : Launch) (hl9 : l.stackTraces = false) (dC : Nat → ClassId) (dI : Nat → Nat → Nat) (z : XZ) (h0 h1 h2 : Nat) (o0 : Nat) (sz : Nat) (kc0 : ClassId) : Met l yJx4a65c_add_72be8 (.code yJx4a65c_add_72be8 cJx4a65c_add_72be8 4 none :: wsL_law) ({ frames := 0, cells := 0, slots := 0, locals := 0 }) (va_Pc [.ref h0, .ref h1, .ref h2, .int 0] (PC (dC, dI) [(h0, ce154 h2), (h1, ce38 (z.2.1 0) o0 h1), (h2, ce153 kc0)] [(kc0, .object "java/lang/Object")] sz z)) (va_Qv (fun (_ : Unit) => True) (fun (_ : Unit) (t : State) => PG (dC, dI) [(h0, ce156 h2), (h1, ce38 (z.2.1 0) o0 h1), (h2, ce157 kc0 h1)] [(kc0, .object "java/lang/Object")] (va_A [(h0, ce154 h2), (h1, ce38 (z.2.1 0) o0 h1), (h2, ce153 kc0)] sz) sz 0 t) (va_A [(h0, ce154 h2), (h1, ce38 (z.2.1 0) o0 h1), (h2, ce153 kc0)] sz)) 0 0 (va_A [(h0, ce154 h2), (h1, ce38 (z.2.1 0) o0 h1), (h2, ce153 kc0)] sz) := by
  refine Met.ofW (cc := cJx4a65c_add_72be8) (maxL := 4) (ret := none) (by decide) rfl ?_
  intro p e s m args below meth c s₁ B hml hv
  obtain ⟨rfl, hsz, hP, hK, hD0, hX, hT⟩ := hv
  have hx := B.exec
  have hb := B.bytes
  have hr := B.returns
  have hts0 := atoms_spec (ws := .code yJx4a65c_add_72be8 cJx4a65c_add_72be8 4 none :: wsL_law) B.pre
  have hts := xTail hts0
  have hown : s.vm.findClass RJx4a65c = some m.cls := xown B.named rfl
  have hlocks := B.notSynchronized
  subst hsz
  have hD := hD0.self (sz := s.heap.size)
  generalize hAe : va_A [(h0, ce154 h2), (h1, ce38 (z.2.1 0) o0 h1), (h2, ce153 kc0)] s.heap.size = A at hD hX ⊢
  have hA : ∀ q : Nat, s.heap.size ≤ q → A q := fun q h => by rw [← hAe]; exact Or.inr h
  have hS : va_S A s.heap s.heap [] := va_S.rf
  have hG : s.heap.size + 0 ≤ s.heap.size := Nat.le_refl _
  have hl := lv_entry ([.ref h0, .ref h1, .ref h2, .int 0]) (n := 4) (Nat.le_of_ble_eq_true rfl)
  rw [lg_entry_eq]
  generalize (lg_sl ([.ref h0, .ref h1, .ref h2, .int 0]) ++ List.replicate (4 - (lg_sl ([.ref h0, .ref h1, .ref h2, .int 0])).length) Slot.unset).toArray = ls at hl ⊢
  have hl : lv_has ls 4 [(0, .ref h0), (1, .ref h1), (2, .ref h2), (3, .int 0)] := hl
  refine lv_iload_n hx hb dJx4a65c_add_72be8_0 rfl (lv_at hl 3 rfl) ?_
  refine lv_aload_n hx hb dJx4a65c_add_72be8_1 rfl (lv_at hl 2 rfl) ?_
  refine va_alen hx hb hK hP 2 0 rfl rfl (v := 10) rfl dJx4a65c_add_72be8_2 ?_
  refine lv_icmp_ne (tgt := 11) hx hb dJx4a65c_add_72be8_3 (by decide) (fun _ => ?_) (fun cz => absurd cz (by decide))
  refine lv_aload_n hx hb dJx4a65c_add_72be8_11 rfl (lv_at hl 2 rfl) ?_
  refine lv_iload_n hx hb dJx4a65c_add_72be8_12 rfl (lv_at hl 3 rfl) ?_
  refine lv_aload_n hx hb dJx4a65c_add_72be8_13 rfl (lv_at hl 1 rfl) ?_
  refine vb_astq (E := "java/lang/Object") (C := RX2) hx hb hK hP hD (va_Sre hS) 2 0 rfl rfl (va_recv hK hP (ci := 3) (q := (RX2, TX2, 19)) (q0 := 1) rfl rfl) (vb_asgC (hT.2.1.1 (RX2, "java/lang/Object") (by decide))) (i := 0) (by unfold vp_in; decide) dJx4a65c_add_72be8_14 (fun H1 _ hP hD hS' => ?_)
  have hG : s.heap.size + 0 ≤ H1.size := Nat.le_trans hG hS'.1
  have hS := va_Str hS hS'
  have hP : va_P (dC, dI) xCl [(h0, ce154 h2), (h1, ce38 (z.2.1 0) o0 h1), (h2, ce155 kc0 h1)] H1 := hP
  have hD := vd_as hP hD rfl
  refine lv_aload_n hx hb dJx4a65c_add_72be8_15 rfl (lv_at hl 0 rfl) ?_
  refine lv_iload_n hx hb dJx4a65c_add_72be8_16 rfl (lv_at hl 3 rfl) ?_
  refine lv_iconst (v := 1) hx hb dJx4a65c_add_72be8_17 (by decide) ?_
  refine lv_iadd hx hb dJx4a65c_add_72be8_18 ?_
  refine lv_topi (fun y2 ey2 => ?_)
  obtain rfl : y2 = 1 := ey2.trans (by decide)
  refine va_put (D := (dC, dI)) (ci := 0) (v := .int 1) (ty := .int) (C := RJx4a65c) (T := TJx4a65c) (N := 3) hx hb hts in_Jx4a65c tyJx4a65c tyJx4a65c_ok nmJx4a65c hown hK hP hD (va_Sre hS) 0 rfl rfl 2 (by decide) (hts _ q_74) (fun _ h9 => h9) rfl (by decide +kernel) rfl rfl (Nat.le_of_ble_eq_true rfl) dJx4a65c_add_72be8_19 (fun H3 _ hP hD hS' => ?_)
  have hG : s.heap.size + 0 ≤ H3.size := Nat.le_trans hG hS'.1
  have hS := va_Str hS hS'
  have hP : va_P (dC, dI) xCl [(h0, ce156 h2), (h1, ce38 (z.2.1 0) o0 h1), (h2, ce155 kc0 h1)] H3 := hP
  have hD := vd_as hP hD rfl
  have ehu4 : (va_up (va_up (va_up (va_up (fun _ => none) 0 none) 1 none) 2 none) 0 (some h1)) = (va_up (va_up (va_up (fun _ => none) 0 (some h1)) 1 none) 2 none) := by funext j; by_cases g0 : j = 0; (subst g0; rfl); by_cases g1 : j = 1; (subst g1; rfl); by_cases g2 : j = 2; (subst g2; rfl); simp only [va_up, g0, g1, g2, if_false]
  have hu4 : (ce155 kc0 h1 : va_E) = ce157 kc0 h1 := (show (.inl (kc0, 10, .inr (.inr (.inr (.inr (va_up (va_up (va_up (va_up (fun _ => none) 0 none) 1 none) 2 none) 0 (some h1)))))) : va_E) = .inl (kc0, 10, .inr (.inr (.inr (.inr (va_up (va_up (va_up (fun _ => none) 0 (some h1)) 1 none) 2 none))))) by rw [ehu4])
  rw [hu4] at hP hD
  have hP : va_P (dC, dI) xCl [(h0, ce156 h2), (h1, ce38 (z.2.1 0) o0 h1), (h2, ce157 kc0 h1)] H3 := hP
  have hD := vd_as hP hD rfl
  exact W.vret hx hb hr (fun t9 ht9 hW9 => ⟨⟨(), rfl, trivial, ⟨pq_mk2 hP hD hK [0, 1, 2] [0] rfl rfl rfl ht9 hW9, by rw [ht9]; exact Nat.le_trans (Nat.add_le_add_left (Nat.le_of_ble_eq_true rfl) _) hG⟩⟩, hS.F ht9⟩) hS.2.2 dJx4a65c_add_72be8_22

set_option maxHeartbeats 4000000 in
set_option maxRecDepth 100000 in
theorem k274_add (l : Launch) (hl9 : l.stackTraces = false) (dC : Nat → ClassId) (dI : Nat → Nat → Nat) (z : XZ) (h0 h1 h2 : Nat) (o0 : Nat) (sz : Nat) (kc0 : ClassId) : Met l yJx4a65c_add_9ea2d (.code yJx4a65c_add_9ea2d cJx4a65c_add_9ea2d 2 (some .boolean) :: wsL_law) ({ frames := 1, cells := 0, slots := 0, locals := 23 }) (va_Pc [.ref h0, .ref h1] (PC (dC, dI) [(h0, ce149 h2), (h1, ce38 (z.2.1 0) o0 h1), (h2, ce153 kc0)] [(kc0, .object "java/lang/Object")] sz z)) (va_Qi (fun (r : Int32) (_ : Unit) => r = 1) (fun (_ : Unit) (t : State) => PG (dC, dI) [(h0, ce156 h2), (h1, ce38 (z.2.1 0) o0 h1), (h2, ce157 kc0 h1)] [(kc0, .object "java/lang/Object")] (va_A [(h0, ce149 h2), (h1, ce38 (z.2.1 0) o0 h1), (h2, ce153 kc0)] sz) sz 0 t) (va_A [(h0, ce149 h2), (h1, ce38 (z.2.1 0) o0 h1), (h2, ce153 kc0)] sz)) 0 0 (va_A [(h0, ce149 h2), (h1, ce38 (z.2.1 0) o0 h1), (h2, ce153 kc0)] sz) := by
  refine Met.ofW (cc := cJx4a65c_add_9ea2d) (maxL := 2) (ret := (some .boolean)) (by decide) rfl ?_
  intro p e s m args below meth c s₁ B hml hv
  obtain ⟨rfl, hsz, hP, hK, hD0, hX, hT⟩ := hv
  have hx := B.exec
  have hb := B.bytes
  have hr := B.returns
  have hts0 := atoms_spec (ws := .code yJx4a65c_add_9ea2d cJx4a65c_add_9ea2d 2 (some .boolean) :: wsL_law) B.pre
  have hts := xTail hts0
  have hown : s.vm.findClass RJx4a65c = some m.cls := xown B.named rfl
  have hlocks := B.notSynchronized
  subst hsz
  have hD := hD0.self (sz := s.heap.size)
  generalize hAe : va_A [(h0, ce149 h2), (h1, ce38 (z.2.1 0) o0 h1), (h2, ce153 kc0)] s.heap.size = A at hD hX ⊢
  have hA : ∀ q : Nat, s.heap.size ≤ q → A q := fun q h => by rw [← hAe]; exact Or.inr h
  have hS : va_S A s.heap s.heap [] := va_S.rf
  have hG : s.heap.size + 0 ≤ s.heap.size := Nat.le_refl _
  have hl := lv_entry ([.ref h0, .ref h1]) (n := 2) (Nat.le_of_ble_eq_true rfl)
  rw [lg_entry_eq]
  generalize (lg_sl ([.ref h0, .ref h1]) ++ List.replicate (2 - (lg_sl ([.ref h0, .ref h1])).length) Slot.unset).toArray = ls at hl ⊢
  have hl : lv_has ls 2 [(0, .ref h0), (1, .ref h1)] := hl
  refine lv_aload_n hx hb dJx4a65c_add_9ea2d_0 rfl (lv_at hl 0 rfl) ?_
  refine lv_dup hx hb dJx4a65c_add_9ea2d_1 rfl ?_
  refine va_get (D := (dC, dI)) (ci := 0) (v := .int 10) (C := RJx4a65c) (T := TJx4a65c) (N := 3) hx hb hts in_Jx4a65c hown hK hP 0 rfl rfl 0 (by decide) (hts _ q_108) (u_same (hts _ q_107)) rfl dJx4a65c_add_9ea2d_2 ?_
  refine lv_iconst (v := 1) hx hb dJx4a65c_add_9ea2d_5 (by decide) ?_
  refine lv_iadd hx hb dJx4a65c_add_9ea2d_6 ?_
  refine lv_topi (fun y1 ey1 => ?_)
  obtain rfl : y1 = 11 := ey1.trans (by decide)
  refine va_put (D := (dC, dI)) (ci := 0) (v := .int 11) (ty := .int) (C := RJx4a65c) (T := TJx4a65c) (N := 3) hx hb hts in_Jx4a65c tyJx4a65c tyJx4a65c_ok nmJx4a65c hown hK hP hD (va_Sre hS) 0 rfl rfl 0 (by decide) (hts _ q_108) (u_same (hts _ q_107)) rfl (by decide +kernel) rfl rfl (Nat.le_of_ble_eq_true rfl) dJx4a65c_add_9ea2d_7 (fun H2 _ hP hD hS' => ?_)
  have hG : s.heap.size + 0 ≤ H2.size := Nat.le_trans hG hS'.1
  have hS := va_Str hS hS'
  have hP : va_P (dC, dI) xCl [(h0, ce154 h2), (h1, ce38 (z.2.1 0) o0 h1), (h2, ce153 kc0)] H2 := hP
  have hD := vd_as hP hD rfl
  refine lv_aload_n hx hb dJx4a65c_add_9ea2d_10 rfl (lv_at hl 0 rfl) ?_
  refine lv_aload_n hx hb dJx4a65c_add_9ea2d_11 rfl (lv_at hl 1 rfl) ?_
  refine lv_aload_n hx hb dJx4a65c_add_9ea2d_12 rfl (lv_at hl 0 rfl) ?_
  refine va_get (D := (dC, dI)) (ci := 0) (v := .ref h2) (C := RJx4a65c) (T := TJx4a65c) (N := 3) hx hb hts in_Jx4a65c hown hK hP 0 rfl rfl 1 (by decide) (hts _ q_24) (fun _ h9 => h9) rfl dJx4a65c_add_9ea2d_13 ?_
  refine lv_aload_n hx hb dJx4a65c_add_9ea2d_16 rfl (lv_at hl 0 rfl) ?_
  refine va_get (D := (dC, dI)) (ci := 0) (v := .int 0) (C := RJx4a65c) (T := TJx4a65c) (N := 3) hx hb hts in_Jx4a65c hown hK hP 0 rfl rfl 2 (by decide) (hts _ q_74) (fun _ h9 => h9) rfl dJx4a65c_add_9ea2d_17 ?_
  have hM5 := k273_add l hl9 dC dI z h0 h1 h2 o0 H2.size kc0
  obtain ⟨hF3, hC6⟩ := pc_M hM5 hP hD hK hS hX hT hA [0, 1, 2] [0] rfl rfl rfl
  refine va_callv (va_runV (As := [.ref h1, .ref h2, .int 0]) (rest := []) ⟨hx, hb, hml, hown, hts⟩ hM5 (cwV 3 hts (gV q_123 q_124 q_125 q_12 q_122) rfl rfl rfl hV_Jx4a65c_add_72be8 ⟨Nat.le_of_ble_eq_true rfl, Nat.le_of_ble_eq_true rfl⟩) ⟨pc_blind, va_recv hK hP (ci := 0) (q := (RJx4a65c, TJx4a65c, 3)) (q0 := 0) rfl rfl, fun U hU hW => ⟨rfl, hC6 U hU hW⟩⟩ rfl rfl hl.1 rfl (lv_room (Nat.le_of_ble_eq_true rfl)) dJx4a65c_add_9ea2d_20 ⟨(Nat.le_of_ble_eq_true rfl), (Nat.le_of_ble_eq_true rfl)⟩) hS (fun q9 _ h9 => hF3 q9 h9) hF3 (fun u7 t7 H7 L7 ht7 hvm7 hw7 hB7 hz7 hk7 hS => ?_)
  obtain ⟨hP, hD, hK⟩ := pq_jn (wz := [(h0, ce156 h2), (h1, ce38 (z.2.1 0) o0 h1), (h2, ce157 kc0 h1)]) (tz := [(kc0, .object "java/lang/Object")]) hP hD hK [0, 1, 2] [] rfl hk7 hF3 hB7.1 ht7 hvm7 rfl rfl
  have hG : s.heap.size + 0 ≤ H7.size := Nat.le_trans hG hz7
  refine lv_iconst (v := 1) hx hb dJx4a65c_add_9ea2d_23 (by decide) ?_
  exact W.zret (v := 1) (ty := .boolean) hx hb hr rfl (fun t9 ht9 hW9 => ⟨⟨1, (), rfl, rfl, ⟨pq_mk2 hP hD hK [0, 1, 2] [0] rfl rfl rfl ht9 hW9, by rw [ht9]; exact Nat.le_trans (Nat.add_le_add_left (Nat.le_of_ble_eq_true rfl) _) hG⟩⟩, hS.F ht9⟩) hS.2.2 dJx4a65c_add_9ea2d_24

set_option maxHeartbeats 4000000 in
set_option maxRecDepth 100000 in
theorem k275_add (l : Launch) (hl9 : l.stackTraces = false) (dC : Nat → ClassId) (dI : Nat → Nat → Nat) (z : XZ) (h0 h1 h2 : Nat) (o0 o1 : Nat) (sz : Nat) (kc0 : ClassId) : Met l yJx4a65c_add_72be8 (.code yJx4a65c_add_72be8 cJx4a65c_add_72be8 4 none :: wsL_law) ({ frames := 0, cells := 0, slots := 0, locals := 0 }) (va_Pc [.ref h0, .ref h1, .ref h2, .int 1] (PC (dC, dI) [(h0, ce158 h2), (h1, ce77 (z.2.1 0) o0 h1), (h2, ce157 kc0 o1)] [(kc0, .object "java/lang/Object")] sz z)) (va_Qv (fun (_ : Unit) => True) (fun (_ : Unit) (t : State) => PG (dC, dI) [(h0, ce160 h2), (h1, ce77 (z.2.1 0) o0 h1), (h2, ce161 kc0 o1 h1)] [(kc0, .object "java/lang/Object")] (va_A [(h0, ce158 h2), (h1, ce77 (z.2.1 0) o0 h1), (h2, ce157 kc0 o1)] sz) sz 0 t) (va_A [(h0, ce158 h2), (h1, ce77 (z.2.1 0) o0 h1), (h2, ce157 kc0 o1)] sz)) 0 0 (va_A [(h0, ce158 h2), (h1, ce77 (z.2.1 0) o0 h1), (h2, ce157 kc0 o1)] sz) := by
  refine Met.ofW (cc := cJx4a65c_add_72be8) (maxL := 4) (ret := none) (by decide) rfl ?_
  intro p e s m args below meth c s₁ B hml hv
  obtain ⟨rfl, hsz, hP, hK, hD0, hX, hT⟩ := hv
  have hx := B.exec
  have hb := B.bytes
  have hr := B.returns
  have hts0 := atoms_spec (ws := .code yJx4a65c_add_72be8 cJx4a65c_add_72be8 4 none :: wsL_law) B.pre
  have hts := xTail hts0
  have hown : s.vm.findClass RJx4a65c = some m.cls := xown B.named rfl
  have hlocks := B.notSynchronized
  subst hsz
  have hD := hD0.self (sz := s.heap.size)
  generalize hAe : va_A [(h0, ce158 h2), (h1, ce77 (z.2.1 0) o0 h1), (h2, ce157 kc0 o1)] s.heap.size = A at hD hX ⊢
  have hA : ∀ q : Nat, s.heap.size ≤ q → A q := fun q h => by rw [← hAe]; exact Or.inr h
  have hS : va_S A s.heap s.heap [] := va_S.rf
  have hG : s.heap.size + 0 ≤ s.heap.size := Nat.le_refl _
  have hl := lv_entry ([.ref h0, .ref h1, .ref h2, .int 1]) (n := 4) (Nat.le_of_ble_eq_true rfl)
  rw [lg_entry_eq]
  generalize (lg_sl ([.ref h0, .ref h1, .ref h2, .int 1]) ++ List.replicate (4 - (lg_sl ([.ref h0, .ref h1, .ref h2, .int 1])).length) Slot.unset).toArray = ls at hl ⊢
  have hl : lv_has ls 4 [(0, .ref h0), (1, .ref h1), (2, .ref h2), (3, .int 1)] := hl
  refine lv_iload_n hx hb dJx4a65c_add_72be8_0 rfl (lv_at hl 3 rfl) ?_
  refine lv_aload_n hx hb dJx4a65c_add_72be8_1 rfl (lv_at hl 2 rfl) ?_
  refine va_alen hx hb hK hP 2 0 rfl rfl (v := 10) rfl dJx4a65c_add_72be8_2 ?_
  refine lv_icmp_ne (tgt := 11) hx hb dJx4a65c_add_72be8_3 (by decide) (fun _ => ?_) (fun cz => absurd cz (by decide))
  refine lv_aload_n hx hb dJx4a65c_add_72be8_11 rfl (lv_at hl 2 rfl) ?_
  refine lv_iload_n hx hb dJx4a65c_add_72be8_12 rfl (lv_at hl 3 rfl) ?_
  refine lv_aload_n hx hb dJx4a65c_add_72be8_13 rfl (lv_at hl 1 rfl) ?_
  refine vb_astq (E := "java/lang/Object") (C := RX2) hx hb hK hP hD (va_Sre hS) 2 0 rfl rfl (va_recv hK hP (ci := 3) (q := (RX2, TX2, 19)) (q0 := 1) rfl rfl) (vb_asgC (hT.2.1.1 (RX2, "java/lang/Object") (by decide))) (i := 1) (by unfold vp_in; decide) dJx4a65c_add_72be8_14 (fun H1 _ hP hD hS' => ?_)
  have hG : s.heap.size + 0 ≤ H1.size := Nat.le_trans hG hS'.1
  have hS := va_Str hS hS'
  have hP : va_P (dC, dI) xCl [(h0, ce158 h2), (h1, ce77 (z.2.1 0) o0 h1), (h2, ce159 kc0 o1 h1)] H1 := hP
  have hD := vd_as hP hD rfl
  refine lv_aload_n hx hb dJx4a65c_add_72be8_15 rfl (lv_at hl 0 rfl) ?_
  refine lv_iload_n hx hb dJx4a65c_add_72be8_16 rfl (lv_at hl 3 rfl) ?_
  refine lv_iconst (v := 1) hx hb dJx4a65c_add_72be8_17 (by decide) ?_
  refine lv_iadd hx hb dJx4a65c_add_72be8_18 ?_
  refine lv_topi (fun y2 ey2 => ?_)
  obtain rfl : y2 = 2 := ey2.trans (by decide)
  refine va_put (D := (dC, dI)) (ci := 0) (v := .int 2) (ty := .int) (C := RJx4a65c) (T := TJx4a65c) (N := 3) hx hb hts in_Jx4a65c tyJx4a65c tyJx4a65c_ok nmJx4a65c hown hK hP hD (va_Sre hS) 0 rfl rfl 2 (by decide) (hts _ q_74) (fun _ h9 => h9) rfl (by decide +kernel) rfl rfl (Nat.le_of_ble_eq_true rfl) dJx4a65c_add_72be8_19 (fun H3 _ hP hD hS' => ?_)
  have hG : s.heap.size + 0 ≤ H3.size := Nat.le_trans hG hS'.1
  have hS := va_Str hS hS'
  have hP : va_P (dC, dI) xCl [(h0, ce160 h2), (h1, ce77 (z.2.1 0) o0 h1), (h2, ce159 kc0 o1 h1)] H3 := hP
  have hD := vd_as hP hD rfl
  have ehu4 : (va_up (va_up (va_up (va_up (fun _ => none) 0 (some o1)) 1 none) 2 none) 1 (some h1)) = (va_up (va_up (va_up (fun _ => none) 0 (some o1)) 1 (some h1)) 2 none) := by funext j; by_cases g0 : j = 0; (subst g0; rfl); by_cases g1 : j = 1; (subst g1; rfl); by_cases g2 : j = 2; (subst g2; rfl); simp only [va_up, g0, g1, g2, if_false]
  have hu4 : (ce159 kc0 o1 h1 : va_E) = ce161 kc0 o1 h1 := (show (.inl (kc0, 10, .inr (.inr (.inr (.inr (va_up (va_up (va_up (va_up (fun _ => none) 0 (some o1)) 1 none) 2 none) 1 (some h1)))))) : va_E) = .inl (kc0, 10, .inr (.inr (.inr (.inr (va_up (va_up (va_up (fun _ => none) 0 (some o1)) 1 (some h1)) 2 none))))) by rw [ehu4])
  rw [hu4] at hP hD
  have hP : va_P (dC, dI) xCl [(h0, ce160 h2), (h1, ce77 (z.2.1 0) o0 h1), (h2, ce161 kc0 o1 h1)] H3 := hP
  have hD := vd_as hP hD rfl
  exact W.vret hx hb hr (fun t9 ht9 hW9 => ⟨⟨(), rfl, trivial, ⟨pq_mk2 hP hD hK [0, 1, 2] [0] rfl rfl rfl ht9 hW9, by rw [ht9]; exact Nat.le_trans (Nat.add_le_add_left (Nat.le_of_ble_eq_true rfl) _) hG⟩⟩, hS.F ht9⟩) hS.2.2 dJx4a65c_add_72be8_22

set_option maxHeartbeats 4000000 in
set_option maxRecDepth 100000 in
theorem k276_add (l : Launch) (hl9 : l.stackTraces = false) (dC : Nat → ClassId) (dI : Nat → Nat → Nat) (z : XZ) (h0 h1 h2 : Nat) (o0 o1 : Nat) (sz : Nat) (kc0 : ClassId) : Met l yJx4a65c_add_9ea2d (.code yJx4a65c_add_9ea2d cJx4a65c_add_9ea2d 2 (some .boolean) :: wsL_law) ({ frames := 1, cells := 0, slots := 0, locals := 23 }) (va_Pc [.ref h0, .ref h1] (PC (dC, dI) [(h0, ce156 h2), (h1, ce77 (z.2.1 0) o0 h1), (h2, ce157 kc0 o1)] [(kc0, .object "java/lang/Object")] sz z)) (va_Qi (fun (r : Int32) (_ : Unit) => r = 1) (fun (_ : Unit) (t : State) => PG (dC, dI) [(h0, ce160 h2), (h1, ce77 (z.2.1 0) o0 h1), (h2, ce161 kc0 o1 h1)] [(kc0, .object "java/lang/Object")] (va_A [(h0, ce156 h2), (h1, ce77 (z.2.1 0) o0 h1), (h2, ce157 kc0 o1)] sz) sz 0 t) (va_A [(h0, ce156 h2), (h1, ce77 (z.2.1 0) o0 h1), (h2, ce157 kc0 o1)] sz)) 0 0 (va_A [(h0, ce156 h2), (h1, ce77 (z.2.1 0) o0 h1), (h2, ce157 kc0 o1)] sz) := by
  refine Met.ofW (cc := cJx4a65c_add_9ea2d) (maxL := 2) (ret := (some .boolean)) (by decide) rfl ?_
  intro p e s m args below meth c s₁ B hml hv
  obtain ⟨rfl, hsz, hP, hK, hD0, hX, hT⟩ := hv
  have hx := B.exec
  have hb := B.bytes
  have hr := B.returns
  have hts0 := atoms_spec (ws := .code yJx4a65c_add_9ea2d cJx4a65c_add_9ea2d 2 (some .boolean) :: wsL_law) B.pre
  have hts := xTail hts0
  have hown : s.vm.findClass RJx4a65c = some m.cls := xown B.named rfl
  have hlocks := B.notSynchronized
  subst hsz
  have hD := hD0.self (sz := s.heap.size)
  generalize hAe : va_A [(h0, ce156 h2), (h1, ce77 (z.2.1 0) o0 h1), (h2, ce157 kc0 o1)] s.heap.size = A at hD hX ⊢
  have hA : ∀ q : Nat, s.heap.size ≤ q → A q := fun q h => by rw [← hAe]; exact Or.inr h
  have hS : va_S A s.heap s.heap [] := va_S.rf
  have hG : s.heap.size + 0 ≤ s.heap.size := Nat.le_refl _
  have hl := lv_entry ([.ref h0, .ref h1]) (n := 2) (Nat.le_of_ble_eq_true rfl)
  rw [lg_entry_eq]
  generalize (lg_sl ([.ref h0, .ref h1]) ++ List.replicate (2 - (lg_sl ([.ref h0, .ref h1])).length) Slot.unset).toArray = ls at hl ⊢
  have hl : lv_has ls 2 [(0, .ref h0), (1, .ref h1)] := hl
  refine lv_aload_n hx hb dJx4a65c_add_9ea2d_0 rfl (lv_at hl 0 rfl) ?_
  refine lv_dup hx hb dJx4a65c_add_9ea2d_1 rfl ?_
  refine va_get (D := (dC, dI)) (ci := 0) (v := .int 11) (C := RJx4a65c) (T := TJx4a65c) (N := 3) hx hb hts in_Jx4a65c hown hK hP 0 rfl rfl 0 (by decide) (hts _ q_108) (u_same (hts _ q_107)) rfl dJx4a65c_add_9ea2d_2 ?_
  refine lv_iconst (v := 1) hx hb dJx4a65c_add_9ea2d_5 (by decide) ?_
  refine lv_iadd hx hb dJx4a65c_add_9ea2d_6 ?_
  refine lv_topi (fun y1 ey1 => ?_)
  obtain rfl : y1 = 12 := ey1.trans (by decide)
  refine va_put (D := (dC, dI)) (ci := 0) (v := .int 12) (ty := .int) (C := RJx4a65c) (T := TJx4a65c) (N := 3) hx hb hts in_Jx4a65c tyJx4a65c tyJx4a65c_ok nmJx4a65c hown hK hP hD (va_Sre hS) 0 rfl rfl 0 (by decide) (hts _ q_108) (u_same (hts _ q_107)) rfl (by decide +kernel) rfl rfl (Nat.le_of_ble_eq_true rfl) dJx4a65c_add_9ea2d_7 (fun H2 _ hP hD hS' => ?_)
  have hG : s.heap.size + 0 ≤ H2.size := Nat.le_trans hG hS'.1
  have hS := va_Str hS hS'
  have hP : va_P (dC, dI) xCl [(h0, ce158 h2), (h1, ce77 (z.2.1 0) o0 h1), (h2, ce157 kc0 o1)] H2 := hP
  have hD := vd_as hP hD rfl
  refine lv_aload_n hx hb dJx4a65c_add_9ea2d_10 rfl (lv_at hl 0 rfl) ?_
  refine lv_aload_n hx hb dJx4a65c_add_9ea2d_11 rfl (lv_at hl 1 rfl) ?_
  refine lv_aload_n hx hb dJx4a65c_add_9ea2d_12 rfl (lv_at hl 0 rfl) ?_
  refine va_get (D := (dC, dI)) (ci := 0) (v := .ref h2) (C := RJx4a65c) (T := TJx4a65c) (N := 3) hx hb hts in_Jx4a65c hown hK hP 0 rfl rfl 1 (by decide) (hts _ q_24) (fun _ h9 => h9) rfl dJx4a65c_add_9ea2d_13 ?_
  refine lv_aload_n hx hb dJx4a65c_add_9ea2d_16 rfl (lv_at hl 0 rfl) ?_
  refine va_get (D := (dC, dI)) (ci := 0) (v := .int 1) (C := RJx4a65c) (T := TJx4a65c) (N := 3) hx hb hts in_Jx4a65c hown hK hP 0 rfl rfl 2 (by decide) (hts _ q_74) (fun _ h9 => h9) rfl dJx4a65c_add_9ea2d_17 ?_
  have hM5 := k275_add l hl9 dC dI z h0 h1 h2 o0 o1 H2.size kc0
  obtain ⟨hF3, hC6⟩ := pc_M hM5 hP hD hK hS hX hT hA [0, 1, 2] [0] rfl rfl rfl
  refine va_callv (va_runV (As := [.ref h1, .ref h2, .int 1]) (rest := []) ⟨hx, hb, hml, hown, hts⟩ hM5 (cwV 3 hts (gV q_123 q_124 q_125 q_12 q_122) rfl rfl rfl hV_Jx4a65c_add_72be8 ⟨Nat.le_of_ble_eq_true rfl, Nat.le_of_ble_eq_true rfl⟩) ⟨pc_blind, va_recv hK hP (ci := 0) (q := (RJx4a65c, TJx4a65c, 3)) (q0 := 0) rfl rfl, fun U hU hW => ⟨rfl, hC6 U hU hW⟩⟩ rfl rfl hl.1 rfl (lv_room (Nat.le_of_ble_eq_true rfl)) dJx4a65c_add_9ea2d_20 ⟨(Nat.le_of_ble_eq_true rfl), (Nat.le_of_ble_eq_true rfl)⟩) hS (fun q9 _ h9 => hF3 q9 h9) hF3 (fun u7 t7 H7 L7 ht7 hvm7 hw7 hB7 hz7 hk7 hS => ?_)
  obtain ⟨hP, hD, hK⟩ := pq_jn (wz := [(h0, ce160 h2), (h1, ce77 (z.2.1 0) o0 h1), (h2, ce161 kc0 o1 h1)]) (tz := [(kc0, .object "java/lang/Object")]) hP hD hK [0, 1, 2] [] rfl hk7 hF3 hB7.1 ht7 hvm7 rfl rfl
  have hG : s.heap.size + 0 ≤ H7.size := Nat.le_trans hG hz7
  refine lv_iconst (v := 1) hx hb dJx4a65c_add_9ea2d_23 (by decide) ?_
  exact W.zret (v := 1) (ty := .boolean) hx hb hr rfl (fun t9 ht9 hW9 => ⟨⟨1, (), rfl, rfl, ⟨pq_mk2 hP hD hK [0, 1, 2] [0] rfl rfl rfl ht9 hW9, by rw [ht9]; exact Nat.le_trans (Nat.add_le_add_left (Nat.le_of_ble_eq_true rfl) _) hG⟩⟩, hS.F ht9⟩) hS.2.2 dJx4a65c_add_9ea2d_24

set_option maxHeartbeats 4000000 in
set_option maxRecDepth 100000 in
theorem k277_add (l : Launch) (hl9 : l.stackTraces = false) (dC : Nat → ClassId) (dI : Nat → Nat → Nat) (z : XZ) (h0 h1 h2 : Nat) (o0 o1 o2 : Nat) (sz : Nat) (kc0 : ClassId) : Met l yJx4a65c_add_72be8 (.code yJx4a65c_add_72be8 cJx4a65c_add_72be8 4 none :: wsL_law) ({ frames := 0, cells := 0, slots := 0, locals := 0 }) (va_Pc [.ref h0, .ref h1, .ref h2, .int 2] (PC (dC, dI) [(h0, ce162 h2), (h1, ce115 (z.2.1 0) o0 h1), (h2, ce161 kc0 o1 o2)] [(kc0, .object "java/lang/Object")] sz z)) (va_Qv (fun (_ : Unit) => True) (fun (_ : Unit) (t : State) => PG (dC, dI) [(h0, ce164 h2), (h1, ce115 (z.2.1 0) o0 h1), (h2, ce101 kc0 o1 o2 h1)] [(kc0, .object "java/lang/Object")] (va_A [(h0, ce162 h2), (h1, ce115 (z.2.1 0) o0 h1), (h2, ce161 kc0 o1 o2)] sz) sz 0 t) (va_A [(h0, ce162 h2), (h1, ce115 (z.2.1 0) o0 h1), (h2, ce161 kc0 o1 o2)] sz)) 0 0 (va_A [(h0, ce162 h2), (h1, ce115 (z.2.1 0) o0 h1), (h2, ce161 kc0 o1 o2)] sz) := by
  refine Met.ofW (cc := cJx4a65c_add_72be8) (maxL := 4) (ret := none) (by decide) rfl ?_
  intro p e s m args below meth c s₁ B hml hv
  obtain ⟨rfl, hsz, hP, hK, hD0, hX, hT⟩ := hv
  have hx := B.exec
  have hb := B.bytes
  have hr := B.returns
  have hts0 := atoms_spec (ws := .code yJx4a65c_add_72be8 cJx4a65c_add_72be8 4 none :: wsL_law) B.pre
  have hts := xTail hts0
  have hown : s.vm.findClass RJx4a65c = some m.cls := xown B.named rfl
  have hlocks := B.notSynchronized
  subst hsz
  have hD := hD0.self (sz := s.heap.size)
  generalize hAe : va_A [(h0, ce162 h2), (h1, ce115 (z.2.1 0) o0 h1), (h2, ce161 kc0 o1 o2)] s.heap.size = A at hD hX ⊢
  have hA : ∀ q : Nat, s.heap.size ≤ q → A q := fun q h => by rw [← hAe]; exact Or.inr h
  have hS : va_S A s.heap s.heap [] := va_S.rf
  have hG : s.heap.size + 0 ≤ s.heap.size := Nat.le_refl _
  have hl := lv_entry ([.ref h0, .ref h1, .ref h2, .int 2]) (n := 4) (Nat.le_of_ble_eq_true rfl)
  rw [lg_entry_eq]
  generalize (lg_sl ([.ref h0, .ref h1, .ref h2, .int 2]) ++ List.replicate (4 - (lg_sl ([.ref h0, .ref h1, .ref h2, .int 2])).length) Slot.unset).toArray = ls at hl ⊢
  have hl : lv_has ls 4 [(0, .ref h0), (1, .ref h1), (2, .ref h2), (3, .int 2)] := hl
  refine lv_iload_n hx hb dJx4a65c_add_72be8_0 rfl (lv_at hl 3 rfl) ?_
  refine lv_aload_n hx hb dJx4a65c_add_72be8_1 rfl (lv_at hl 2 rfl) ?_
  refine va_alen hx hb hK hP 2 0 rfl rfl (v := 10) rfl dJx4a65c_add_72be8_2 ?_
  refine lv_icmp_ne (tgt := 11) hx hb dJx4a65c_add_72be8_3 (by decide) (fun _ => ?_) (fun cz => absurd cz (by decide))
  refine lv_aload_n hx hb dJx4a65c_add_72be8_11 rfl (lv_at hl 2 rfl) ?_
  refine lv_iload_n hx hb dJx4a65c_add_72be8_12 rfl (lv_at hl 3 rfl) ?_
  refine lv_aload_n hx hb dJx4a65c_add_72be8_13 rfl (lv_at hl 1 rfl) ?_
  refine vb_astq (E := "java/lang/Object") (C := RX2) hx hb hK hP hD (va_Sre hS) 2 0 rfl rfl (va_recv hK hP (ci := 3) (q := (RX2, TX2, 19)) (q0 := 1) rfl rfl) (vb_asgC (hT.2.1.1 (RX2, "java/lang/Object") (by decide))) (i := 2) (by unfold vp_in; decide) dJx4a65c_add_72be8_14 (fun H1 _ hP hD hS' => ?_)
  have hG : s.heap.size + 0 ≤ H1.size := Nat.le_trans hG hS'.1
  have hS := va_Str hS hS'
  have hP : va_P (dC, dI) xCl [(h0, ce162 h2), (h1, ce115 (z.2.1 0) o0 h1), (h2, ce163 kc0 o1 o2 h1)] H1 := hP
  have hD := vd_as hP hD rfl
  refine lv_aload_n hx hb dJx4a65c_add_72be8_15 rfl (lv_at hl 0 rfl) ?_
  refine lv_iload_n hx hb dJx4a65c_add_72be8_16 rfl (lv_at hl 3 rfl) ?_
  refine lv_iconst (v := 1) hx hb dJx4a65c_add_72be8_17 (by decide) ?_
  refine lv_iadd hx hb dJx4a65c_add_72be8_18 ?_
  refine lv_topi (fun y2 ey2 => ?_)
  obtain rfl : y2 = 3 := ey2.trans (by decide)
  refine va_put (D := (dC, dI)) (ci := 0) (v := .int 3) (ty := .int) (C := RJx4a65c) (T := TJx4a65c) (N := 3) hx hb hts in_Jx4a65c tyJx4a65c tyJx4a65c_ok nmJx4a65c hown hK hP hD (va_Sre hS) 0 rfl rfl 2 (by decide) (hts _ q_74) (fun _ h9 => h9) rfl (by decide +kernel) rfl rfl (Nat.le_of_ble_eq_true rfl) dJx4a65c_add_72be8_19 (fun H3 _ hP hD hS' => ?_)
  have hG : s.heap.size + 0 ≤ H3.size := Nat.le_trans hG hS'.1
  have hS := va_Str hS hS'
  have hP : va_P (dC, dI) xCl [(h0, ce164 h2), (h1, ce115 (z.2.1 0) o0 h1), (h2, ce163 kc0 o1 o2 h1)] H3 := hP
  have hD := vd_as hP hD rfl
  have ehu4 : (va_up (va_up (va_up (va_up (fun _ => none) 0 (some o1)) 1 (some o2)) 2 none) 2 (some h1)) = (va_up (va_up (va_up (fun _ => none) 0 (some o1)) 1 (some o2)) 2 (some h1)) := by funext j; by_cases g0 : j = 0; (subst g0; rfl); by_cases g1 : j = 1; (subst g1; rfl); by_cases g2 : j = 2; (subst g2; rfl); simp only [va_up, g0, g1, g2, if_false]
  have hu4 : (ce163 kc0 o1 o2 h1 : va_E) = ce101 kc0 o1 o2 h1 := (show (.inl (kc0, 10, .inr (.inr (.inr (.inr (va_up (va_up (va_up (va_up (fun _ => none) 0 (some o1)) 1 (some o2)) 2 none) 2 (some h1)))))) : va_E) = .inl (kc0, 10, .inr (.inr (.inr (.inr (va_up (va_up (va_up (fun _ => none) 0 (some o1)) 1 (some o2)) 2 (some h1)))))) by rw [ehu4])
  rw [hu4] at hP hD
  have hP : va_P (dC, dI) xCl [(h0, ce164 h2), (h1, ce115 (z.2.1 0) o0 h1), (h2, ce101 kc0 o1 o2 h1)] H3 := hP
  have hD := vd_as hP hD rfl
  exact W.vret hx hb hr (fun t9 ht9 hW9 => ⟨⟨(), rfl, trivial, ⟨pq_mk2 hP hD hK [0, 1, 2] [0] rfl rfl rfl ht9 hW9, by rw [ht9]; exact Nat.le_trans (Nat.add_le_add_left (Nat.le_of_ble_eq_true rfl) _) hG⟩⟩, hS.F ht9⟩) hS.2.2 dJx4a65c_add_72be8_22

set_option maxHeartbeats 4000000 in
set_option maxRecDepth 100000 in
theorem k278_add (l : Launch) (hl9 : l.stackTraces = false) (dC : Nat → ClassId) (dI : Nat → Nat → Nat) (z : XZ) (h0 h1 h2 : Nat) (o0 o1 o2 : Nat) (sz : Nat) (kc0 : ClassId) : Met l yJx4a65c_add_9ea2d (.code yJx4a65c_add_9ea2d cJx4a65c_add_9ea2d 2 (some .boolean) :: wsL_law) ({ frames := 1, cells := 0, slots := 0, locals := 23 }) (va_Pc [.ref h0, .ref h1] (PC (dC, dI) [(h0, ce160 h2), (h1, ce115 (z.2.1 0) o0 h1), (h2, ce161 kc0 o1 o2)] [(kc0, .object "java/lang/Object")] sz z)) (va_Qi (fun (r : Int32) (_ : Unit) => r = 1) (fun (_ : Unit) (t : State) => PG (dC, dI) [(h0, ce164 h2), (h1, ce115 (z.2.1 0) o0 h1), (h2, ce101 kc0 o1 o2 h1)] [(kc0, .object "java/lang/Object")] (va_A [(h0, ce160 h2), (h1, ce115 (z.2.1 0) o0 h1), (h2, ce161 kc0 o1 o2)] sz) sz 0 t) (va_A [(h0, ce160 h2), (h1, ce115 (z.2.1 0) o0 h1), (h2, ce161 kc0 o1 o2)] sz)) 0 0 (va_A [(h0, ce160 h2), (h1, ce115 (z.2.1 0) o0 h1), (h2, ce161 kc0 o1 o2)] sz) := by
  refine Met.ofW (cc := cJx4a65c_add_9ea2d) (maxL := 2) (ret := (some .boolean)) (by decide) rfl ?_
  intro p e s m args below meth c s₁ B hml hv
  obtain ⟨rfl, hsz, hP, hK, hD0, hX, hT⟩ := hv
  have hx := B.exec
  have hb := B.bytes
  have hr := B.returns
  have hts0 := atoms_spec (ws := .code yJx4a65c_add_9ea2d cJx4a65c_add_9ea2d 2 (some .boolean) :: wsL_law) B.pre
  have hts := xTail hts0
  have hown : s.vm.findClass RJx4a65c = some m.cls := xown B.named rfl
  have hlocks := B.notSynchronized
  subst hsz
  have hD := hD0.self (sz := s.heap.size)
  generalize hAe : va_A [(h0, ce160 h2), (h1, ce115 (z.2.1 0) o0 h1), (h2, ce161 kc0 o1 o2)] s.heap.size = A at hD hX ⊢
  have hA : ∀ q : Nat, s.heap.size ≤ q → A q := fun q h => by rw [← hAe]; exact Or.inr h
  have hS : va_S A s.heap s.heap [] := va_S.rf
  have hG : s.heap.size + 0 ≤ s.heap.size := Nat.le_refl _
  have hl := lv_entry ([.ref h0, .ref h1]) (n := 2) (Nat.le_of_ble_eq_true rfl)
  rw [lg_entry_eq]
  generalize (lg_sl ([.ref h0, .ref h1]) ++ List.replicate (2 - (lg_sl ([.ref h0, .ref h1])).length) Slot.unset).toArray = ls at hl ⊢
  have hl : lv_has ls 2 [(0, .ref h0), (1, .ref h1)] := hl
  refine lv_aload_n hx hb dJx4a65c_add_9ea2d_0 rfl (lv_at hl 0 rfl) ?_
  refine lv_dup hx hb dJx4a65c_add_9ea2d_1 rfl ?_
  refine va_get (D := (dC, dI)) (ci := 0) (v := .int 12) (C := RJx4a65c) (T := TJx4a65c) (N := 3) hx hb hts in_Jx4a65c hown hK hP 0 rfl rfl 0 (by decide) (hts _ q_108) (u_same (hts _ q_107)) rfl dJx4a65c_add_9ea2d_2 ?_
  refine lv_iconst (v := 1) hx hb dJx4a65c_add_9ea2d_5 (by decide) ?_
  refine lv_iadd hx hb dJx4a65c_add_9ea2d_6 ?_
  refine lv_topi (fun y1 ey1 => ?_)
  obtain rfl : y1 = 13 := ey1.trans (by decide)
  refine va_put (D := (dC, dI)) (ci := 0) (v := .int 13) (ty := .int) (C := RJx4a65c) (T := TJx4a65c) (N := 3) hx hb hts in_Jx4a65c tyJx4a65c tyJx4a65c_ok nmJx4a65c hown hK hP hD (va_Sre hS) 0 rfl rfl 0 (by decide) (hts _ q_108) (u_same (hts _ q_107)) rfl (by decide +kernel) rfl rfl (Nat.le_of_ble_eq_true rfl) dJx4a65c_add_9ea2d_7 (fun H2 _ hP hD hS' => ?_)
  have hG : s.heap.size + 0 ≤ H2.size := Nat.le_trans hG hS'.1
  have hS := va_Str hS hS'
  have hP : va_P (dC, dI) xCl [(h0, ce162 h2), (h1, ce115 (z.2.1 0) o0 h1), (h2, ce161 kc0 o1 o2)] H2 := hP
  have hD := vd_as hP hD rfl
  refine lv_aload_n hx hb dJx4a65c_add_9ea2d_10 rfl (lv_at hl 0 rfl) ?_
  refine lv_aload_n hx hb dJx4a65c_add_9ea2d_11 rfl (lv_at hl 1 rfl) ?_
  refine lv_aload_n hx hb dJx4a65c_add_9ea2d_12 rfl (lv_at hl 0 rfl) ?_
  refine va_get (D := (dC, dI)) (ci := 0) (v := .ref h2) (C := RJx4a65c) (T := TJx4a65c) (N := 3) hx hb hts in_Jx4a65c hown hK hP 0 rfl rfl 1 (by decide) (hts _ q_24) (fun _ h9 => h9) rfl dJx4a65c_add_9ea2d_13 ?_
  refine lv_aload_n hx hb dJx4a65c_add_9ea2d_16 rfl (lv_at hl 0 rfl) ?_
  refine va_get (D := (dC, dI)) (ci := 0) (v := .int 2) (C := RJx4a65c) (T := TJx4a65c) (N := 3) hx hb hts in_Jx4a65c hown hK hP 0 rfl rfl 2 (by decide) (hts _ q_74) (fun _ h9 => h9) rfl dJx4a65c_add_9ea2d_17 ?_
  have hM5 := k277_add l hl9 dC dI z h0 h1 h2 o0 o1 o2 H2.size kc0
  obtain ⟨hF3, hC6⟩ := pc_M hM5 hP hD hK hS hX hT hA [0, 1, 2] [0] rfl rfl rfl
  refine va_callv (va_runV (As := [.ref h1, .ref h2, .int 2]) (rest := []) ⟨hx, hb, hml, hown, hts⟩ hM5 (cwV 3 hts (gV q_123 q_124 q_125 q_12 q_122) rfl rfl rfl hV_Jx4a65c_add_72be8 ⟨Nat.le_of_ble_eq_true rfl, Nat.le_of_ble_eq_true rfl⟩) ⟨pc_blind, va_recv hK hP (ci := 0) (q := (RJx4a65c, TJx4a65c, 3)) (q0 := 0) rfl rfl, fun U hU hW => ⟨rfl, hC6 U hU hW⟩⟩ rfl rfl hl.1 rfl (lv_room (Nat.le_of_ble_eq_true rfl)) dJx4a65c_add_9ea2d_20 ⟨(Nat.le_of_ble_eq_true rfl), (Nat.le_of_ble_eq_true rfl)⟩) hS (fun q9 _ h9 => hF3 q9 h9) hF3 (fun u7 t7 H7 L7 ht7 hvm7 hw7 hB7 hz7 hk7 hS => ?_)
  obtain ⟨hP, hD, hK⟩ := pq_jn (wz := [(h0, ce164 h2), (h1, ce115 (z.2.1 0) o0 h1), (h2, ce101 kc0 o1 o2 h1)]) (tz := [(kc0, .object "java/lang/Object")]) hP hD hK [0, 1, 2] [] rfl hk7 hF3 hB7.1 ht7 hvm7 rfl rfl
  have hG : s.heap.size + 0 ≤ H7.size := Nat.le_trans hG hz7
  refine lv_iconst (v := 1) hx hb dJx4a65c_add_9ea2d_23 (by decide) ?_
  exact W.zret (v := 1) (ty := .boolean) hx hb hr rfl (fun t9 ht9 hW9 => ⟨⟨1, (), rfl, rfl, ⟨pq_mk2 hP hD hK [0, 1, 2] [0] rfl rfl rfl ht9 hW9, by rw [ht9]; exact Nat.le_trans (Nat.add_le_add_left (Nat.le_of_ble_eq_true rfl) _) hG⟩⟩, hS.F ht9⟩) hS.2.2 dJx4a65c_add_9ea2d_24

set_option maxHeartbeats 4000000 in
set_option maxRecDepth 100000 in
theorem k279_readsOnlyPlaced (l : Launch) (hl9 : l.stackTraces = false) (dC : Nat → ClassId) (dI : Nat → Nat → Nat) (z : XZ) (h0 h1 : Nat) (sz : Nat) : Met l yX2_readsOnlyPlaced (.code yX2_readsOnlyPlaced cX2_readsOnlyPlaced 3 (some .boolean) :: wsL_law) ({ frames := 1, cells := 0, slots := 0, locals := 20 }) (va_Pc [.ref h0] (PC (dC, dI) [(h0, ce144 (z.2.1 0) h1 h0), (h1, ce3 z.1)] [] sz z)) (va_Qi (fun (r : Int32) (_ : Unit) => r = 1) (fun (_ : Unit) (t : State) => PG (dC, dI) [(h0, ce144 (z.2.1 0) h1 h0), (h1, ce3 z.1)] [] (va_A [(h0, ce144 (z.2.1 0) h1 h0), (h1, ce3 z.1)] sz) sz 0 t) (va_A [(h0, ce144 (z.2.1 0) h1 h0), (h1, ce3 z.1)] sz)) 0 0 (va_A [(h0, ce144 (z.2.1 0) h1 h0), (h1, ce3 z.1)] sz) := by
  refine Met.ofW (cc := cX2_readsOnlyPlaced) (maxL := 3) (ret := (some .boolean)) (by decide) rfl ?_
  intro p e s m args below meth c s₁ B hml hv
  obtain ⟨rfl, hsz, hP, hK, hD0, hX, hT⟩ := hv
  have hx := B.exec
  have hb := B.bytes
  have hr := B.returns
  have hts0 := atoms_spec (ws := .code yX2_readsOnlyPlaced cX2_readsOnlyPlaced 3 (some .boolean) :: wsL_law) B.pre
  have hts := xTail hts0
  have hown : s.vm.findClass RX2 = some m.cls := xown B.named rfl
  have hlocks := B.notSynchronized
  subst hsz
  have hD := hD0.self (sz := s.heap.size)
  generalize hAe : va_A [(h0, ce144 (z.2.1 0) h1 h0), (h1, ce3 z.1)] s.heap.size = A at hD hX ⊢
  have hA : ∀ q : Nat, s.heap.size ≤ q → A q := fun q h => by rw [← hAe]; exact Or.inr h
  have hS : va_S A s.heap s.heap [] := va_S.rf
  have hG : s.heap.size + 0 ≤ s.heap.size := Nat.le_refl _
  have hl := lv_entry ([.ref h0]) (n := 3) (Nat.le_of_ble_eq_true rfl)
  rw [lg_entry_eq]
  generalize (lg_sl ([.ref h0]) ++ List.replicate (3 - (lg_sl ([.ref h0])).length) Slot.unset).toArray = ls at hl ⊢
  have hl : lv_has ls 3 [(0, .ref h0)] := hl
  refine lv_iconst (v := 0) hx hb dX2_readsOnlyPlaced_0 (by decide) ?_
  refine lv_istore_n (lv' := [(1, .int 0), (0, .ref h0)]) hx hb dX2_readsOnlyPlaced_1 rfl hl (by decide) rfl (fun ls hl => ?_)
  refine lv_iload_n hx hb dX2_readsOnlyPlaced_2 rfl (lv_at hl 0 rfl) ?_
  refine lv_aload_n hx hb dX2_readsOnlyPlaced_3 rfl (lv_at hl 1 rfl) ?_
  refine va_get (D := (dC, dI)) (ci := 3) (v := .ref h1) (C := RX2) (T := TX2) (N := 19) hx hb hts in_X2 hown hK hP 0 rfl rfl 2 (by decide) (hts _ q_96) (fun _ h9 => h9) rfl dX2_readsOnlyPlaced_4 ?_
  have hM3 := k9_size l hl9 dC dI z h1 s.heap.size 0 0
  obtain ⟨hF1, hC4⟩ := pc_M hM3 hP hD hK hS hX hT hA [1] [] rfl rfl rfl
  refine va_calli (va_runV (As := []) (rest := [.int 0]) ⟨hx, hb, hml, hown, hts⟩ hM3 (cwV 0 hts (gV q_160 q_77 q_78 q_12 q_75) rfl rfl rfl hV_Jx4a65c_size_8abf5 ⟨Nat.le_of_ble_eq_true rfl, Nat.le_of_ble_eq_true rfl⟩) ⟨pc_blind, va_recv hK hP (ci := 0) (q := (RJx4a65c, TJx4a65c, 3)) (q0 := 1) rfl rfl, fun U hU hW => ⟨rfl, hC4 U hU hW⟩⟩ rfl rfl hl.1 rfl (lv_room (Nat.le_of_ble_eq_true rfl)) dX2_readsOnlyPlaced_7 ⟨(Nat.le_of_ble_eq_true rfl), (Nat.le_of_ble_eq_true rfl)⟩) hS (fun q9 _ h9 => hF1 q9 h9) hF1 (fun r6 u5 t5 H5 L5 ht5 hvm5 hw5 hB5 hz5 hk5 hS => ?_)
  have hP := pq_keep hP hD [1] rfl hk5 hB5.1 ht5
  have hG : s.heap.size + 0 ≤ H5.size := Nat.le_trans hG hz5
  refine W.eq (g2 := F0 m 10 ls [.int 0, .int 0]) (by rw [hw5]) ?_
  refine lv_icmp_ge (tgt := 53) hx hb dX2_readsOnlyPlaced_10 (by decide) (fun _ => ?_) (fun cz => absurd (by decide) cz)
  refine lv_iconst (v := 1) hx hb dX2_readsOnlyPlaced_53 (by decide) ?_
  exact W.zret (v := 1) (ty := .boolean) hx hb hr rfl (fun t9 ht9 hW9 => ⟨⟨1, (), rfl, rfl, ⟨pq_mk2 hP hD hK [0, 1] [] rfl rfl rfl ht9 hW9, by rw [ht9]; exact Nat.le_trans (Nat.add_le_add_left (Nat.le_of_ble_eq_true rfl) _) hG⟩⟩, hS.F ht9⟩) hS.2.2 dX2_readsOnlyPlaced_54

set_option maxHeartbeats 4000000 in
set_option maxRecDepth 100000 in
theorem k280_add (l : Launch) (hl9 : l.stackTraces = false) (dC : Nat → ClassId) (dI : Nat → Nat → Nat) (z : XZ) (h0 h1 h2 : Nat) (o0 o1 o2 o3 : Nat) (sz : Nat) (kc0 : ClassId) : Met l yJx4a65c_add_72be8 (.code yJx4a65c_add_72be8 cJx4a65c_add_72be8 4 none :: wsL_law) ({ frames := 0, cells := 0, slots := 0, locals := 0 }) (va_Pc [.ref h0, .ref h1, .ref h2, .int 3] (PC (dC, dI) [(h0, ce166 h2), (h1, ce165 (z.2.1 0) o0 h1), (h2, ce101 kc0 o1 o2 o3)] [(kc0, .object "java/lang/Object")] sz z)) (va_Qv (fun (_ : Unit) => True) (fun (_ : Unit) (t : State) => PG (dC, dI) [(h0, ce167 h2), (h1, ce165 (z.2.1 0) o0 h1), (h2, ce146 kc0 o1 o2 o3 h1)] [(kc0, .object "java/lang/Object")] (va_A [(h0, ce166 h2), (h1, ce165 (z.2.1 0) o0 h1), (h2, ce101 kc0 o1 o2 o3)] sz) sz 0 t) (va_A [(h0, ce166 h2), (h1, ce165 (z.2.1 0) o0 h1), (h2, ce101 kc0 o1 o2 o3)] sz)) 0 0 (va_A [(h0, ce166 h2), (h1, ce165 (z.2.1 0) o0 h1), (h2, ce101 kc0 o1 o2 o3)] sz) := by
  refine Met.ofW (cc := cJx4a65c_add_72be8) (maxL := 4) (ret := none) (by decide) rfl ?_
  intro p e s m args below meth c s₁ B hml hv
  obtain ⟨rfl, hsz, hP, hK, hD0, hX, hT⟩ := hv
  have hx := B.exec
  have hb := B.bytes
  have hr := B.returns
  have hts0 := atoms_spec (ws := .code yJx4a65c_add_72be8 cJx4a65c_add_72be8 4 none :: wsL_law) B.pre
  have hts := xTail hts0
  have hown : s.vm.findClass RJx4a65c = some m.cls := xown B.named rfl
  have hlocks := B.notSynchronized
  subst hsz
  have hD := hD0.self (sz := s.heap.size)
  generalize hAe : va_A [(h0, ce166 h2), (h1, ce165 (z.2.1 0) o0 h1), (h2, ce101 kc0 o1 o2 o3)] s.heap.size = A at hD hX ⊢
  have hA : ∀ q : Nat, s.heap.size ≤ q → A q := fun q h => by rw [← hAe]; exact Or.inr h
  have hS : va_S A s.heap s.heap [] := va_S.rf
  have hG : s.heap.size + 0 ≤ s.heap.size := Nat.le_refl _
  have hl := lv_entry ([.ref h0, .ref h1, .ref h2, .int 3]) (n := 4) (Nat.le_of_ble_eq_true rfl)
  rw [lg_entry_eq]
  generalize (lg_sl ([.ref h0, .ref h1, .ref h2, .int 3]) ++ List.replicate (4 - (lg_sl ([.ref h0, .ref h1, .ref h2, .int 3])).length) Slot.unset).toArray = ls at hl ⊢
  have hl : lv_has ls 4 [(0, .ref h0), (1, .ref h1), (2, .ref h2), (3, .int 3)] := hl
  refine lv_iload_n hx hb dJx4a65c_add_72be8_0 rfl (lv_at hl 3 rfl) ?_
  refine lv_aload_n hx hb dJx4a65c_add_72be8_1 rfl (lv_at hl 2 rfl) ?_
  refine va_alen hx hb hK hP 2 0 rfl rfl (v := 10) rfl dJx4a65c_add_72be8_2 ?_
  refine lv_icmp_ne (tgt := 11) hx hb dJx4a65c_add_72be8_3 (by decide) (fun _ => ?_) (fun cz => absurd cz (by decide))
  refine lv_aload_n hx hb dJx4a65c_add_72be8_11 rfl (lv_at hl 2 rfl) ?_
  refine lv_iload_n hx hb dJx4a65c_add_72be8_12 rfl (lv_at hl 3 rfl) ?_
  refine lv_aload_n hx hb dJx4a65c_add_72be8_13 rfl (lv_at hl 1 rfl) ?_
  refine vb_astq (E := "java/lang/Object") (C := RX2) hx hb hK hP hD (va_Sre hS) 2 0 rfl rfl (va_recv hK hP (ci := 3) (q := (RX2, TX2, 19)) (q0 := 1) rfl rfl) (vb_asgC (hT.2.1.1 (RX2, "java/lang/Object") (by decide))) (i := 3) (by unfold vp_in; decide) dJx4a65c_add_72be8_14 (fun H1 _ hP hD hS' => ?_)
  have hG : s.heap.size + 0 ≤ H1.size := Nat.le_trans hG hS'.1
  have hS := va_Str hS hS'
  have hP : va_P (dC, dI) xCl [(h0, ce166 h2), (h1, ce165 (z.2.1 0) o0 h1), (h2, ce146 kc0 o1 o2 o3 h1)] H1 := hP
  have hD := vd_as hP hD rfl
  refine lv_aload_n hx hb dJx4a65c_add_72be8_15 rfl (lv_at hl 0 rfl) ?_
  refine lv_iload_n hx hb dJx4a65c_add_72be8_16 rfl (lv_at hl 3 rfl) ?_
  refine lv_iconst (v := 1) hx hb dJx4a65c_add_72be8_17 (by decide) ?_
  refine lv_iadd hx hb dJx4a65c_add_72be8_18 ?_
  refine lv_topi (fun y2 ey2 => ?_)
  obtain rfl : y2 = 4 := ey2.trans (by decide)
  refine va_put (D := (dC, dI)) (ci := 0) (v := .int 4) (ty := .int) (C := RJx4a65c) (T := TJx4a65c) (N := 3) hx hb hts in_Jx4a65c tyJx4a65c tyJx4a65c_ok nmJx4a65c hown hK hP hD (va_Sre hS) 0 rfl rfl 2 (by decide) (hts _ q_74) (fun _ h9 => h9) rfl (by decide +kernel) rfl rfl (Nat.le_of_ble_eq_true rfl) dJx4a65c_add_72be8_19 (fun H3 _ hP hD hS' => ?_)
  have hG : s.heap.size + 0 ≤ H3.size := Nat.le_trans hG hS'.1
  have hS := va_Str hS hS'
  have hP : va_P (dC, dI) xCl [(h0, ce167 h2), (h1, ce165 (z.2.1 0) o0 h1), (h2, ce146 kc0 o1 o2 o3 h1)] H3 := hP
  have hD := vd_as hP hD rfl
  exact W.vret hx hb hr (fun t9 ht9 hW9 => ⟨⟨(), rfl, trivial, ⟨pq_mk2 hP hD hK [0, 1, 2] [0] rfl rfl rfl ht9 hW9, by rw [ht9]; exact Nat.le_trans (Nat.add_le_add_left (Nat.le_of_ble_eq_true rfl) _) hG⟩⟩, hS.F ht9⟩) hS.2.2 dJx4a65c_add_72be8_22

set_option maxHeartbeats 4000000 in
set_option maxRecDepth 100000 in
theorem k281_add (l : Launch) (hl9 : l.stackTraces = false) (dC : Nat → ClassId) (dI : Nat → Nat → Nat) (z : XZ) (h0 h1 h2 : Nat) (o0 o1 o2 o3 : Nat) (sz : Nat) (kc0 : ClassId) : Met l yJx4a65c_add_9ea2d (.code yJx4a65c_add_9ea2d cJx4a65c_add_9ea2d 2 (some .boolean) :: wsL_law) ({ frames := 1, cells := 0, slots := 0, locals := 23 }) (va_Pc [.ref h0, .ref h1] (PC (dC, dI) [(h0, ce164 h2), (h1, ce165 (z.2.1 0) o0 h1), (h2, ce101 kc0 o1 o2 o3)] [(kc0, .object "java/lang/Object")] sz z)) (va_Qi (fun (r : Int32) (_ : Unit) => r = 1) (fun (_ : Unit) (t : State) => PG (dC, dI) [(h0, ce167 h2), (h1, ce165 (z.2.1 0) o0 h1), (h2, ce146 kc0 o1 o2 o3 h1)] [(kc0, .object "java/lang/Object")] (va_A [(h0, ce164 h2), (h1, ce165 (z.2.1 0) o0 h1), (h2, ce101 kc0 o1 o2 o3)] sz) sz 0 t) (va_A [(h0, ce164 h2), (h1, ce165 (z.2.1 0) o0 h1), (h2, ce101 kc0 o1 o2 o3)] sz)) 0 0 (va_A [(h0, ce164 h2), (h1, ce165 (z.2.1 0) o0 h1), (h2, ce101 kc0 o1 o2 o3)] sz) := by
  refine Met.ofW (cc := cJx4a65c_add_9ea2d) (maxL := 2) (ret := (some .boolean)) (by decide) rfl ?_
  intro p e s m args below meth c s₁ B hml hv
  obtain ⟨rfl, hsz, hP, hK, hD0, hX, hT⟩ := hv
  have hx := B.exec
  have hb := B.bytes
  have hr := B.returns
  have hts0 := atoms_spec (ws := .code yJx4a65c_add_9ea2d cJx4a65c_add_9ea2d 2 (some .boolean) :: wsL_law) B.pre
  have hts := xTail hts0
  have hown : s.vm.findClass RJx4a65c = some m.cls := xown B.named rfl
  have hlocks := B.notSynchronized
  subst hsz
  have hD := hD0.self (sz := s.heap.size)
  generalize hAe : va_A [(h0, ce164 h2), (h1, ce165 (z.2.1 0) o0 h1), (h2, ce101 kc0 o1 o2 o3)] s.heap.size = A at hD hX ⊢
  have hA : ∀ q : Nat, s.heap.size ≤ q → A q := fun q h => by rw [← hAe]; exact Or.inr h
  have hS : va_S A s.heap s.heap [] := va_S.rf
  have hG : s.heap.size + 0 ≤ s.heap.size := Nat.le_refl _
  have hl := lv_entry ([.ref h0, .ref h1]) (n := 2) (Nat.le_of_ble_eq_true rfl)
  rw [lg_entry_eq]
  generalize (lg_sl ([.ref h0, .ref h1]) ++ List.replicate (2 - (lg_sl ([.ref h0, .ref h1])).length) Slot.unset).toArray = ls at hl ⊢
  have hl : lv_has ls 2 [(0, .ref h0), (1, .ref h1)] := hl
  refine lv_aload_n hx hb dJx4a65c_add_9ea2d_0 rfl (lv_at hl 0 rfl) ?_
  refine lv_dup hx hb dJx4a65c_add_9ea2d_1 rfl ?_
  refine va_get (D := (dC, dI)) (ci := 0) (v := .int 13) (C := RJx4a65c) (T := TJx4a65c) (N := 3) hx hb hts in_Jx4a65c hown hK hP 0 rfl rfl 0 (by decide) (hts _ q_108) (u_same (hts _ q_107)) rfl dJx4a65c_add_9ea2d_2 ?_
  refine lv_iconst (v := 1) hx hb dJx4a65c_add_9ea2d_5 (by decide) ?_
  refine lv_iadd hx hb dJx4a65c_add_9ea2d_6 ?_
  refine lv_topi (fun y1 ey1 => ?_)
  obtain rfl : y1 = 14 := ey1.trans (by decide)
  refine va_put (D := (dC, dI)) (ci := 0) (v := .int 14) (ty := .int) (C := RJx4a65c) (T := TJx4a65c) (N := 3) hx hb hts in_Jx4a65c tyJx4a65c tyJx4a65c_ok nmJx4a65c hown hK hP hD (va_Sre hS) 0 rfl rfl 0 (by decide) (hts _ q_108) (u_same (hts _ q_107)) rfl (by decide +kernel) rfl rfl (Nat.le_of_ble_eq_true rfl) dJx4a65c_add_9ea2d_7 (fun H2 _ hP hD hS' => ?_)
  have hG : s.heap.size + 0 ≤ H2.size := Nat.le_trans hG hS'.1
  have hS := va_Str hS hS'
  have hP : va_P (dC, dI) xCl [(h0, ce166 h2), (h1, ce165 (z.2.1 0) o0 h1), (h2, ce101 kc0 o1 o2 o3)] H2 := hP
  have hD := vd_as hP hD rfl
  refine lv_aload_n hx hb dJx4a65c_add_9ea2d_10 rfl (lv_at hl 0 rfl) ?_
  refine lv_aload_n hx hb dJx4a65c_add_9ea2d_11 rfl (lv_at hl 1 rfl) ?_
  refine lv_aload_n hx hb dJx4a65c_add_9ea2d_12 rfl (lv_at hl 0 rfl) ?_
  refine va_get (D := (dC, dI)) (ci := 0) (v := .ref h2) (C := RJx4a65c) (T := TJx4a65c) (N := 3) hx hb hts in_Jx4a65c hown hK hP 0 rfl rfl 1 (by decide) (hts _ q_24) (fun _ h9 => h9) rfl dJx4a65c_add_9ea2d_13 ?_
  refine lv_aload_n hx hb dJx4a65c_add_9ea2d_16 rfl (lv_at hl 0 rfl) ?_
  refine va_get (D := (dC, dI)) (ci := 0) (v := .int 3) (C := RJx4a65c) (T := TJx4a65c) (N := 3) hx hb hts in_Jx4a65c hown hK hP 0 rfl rfl 2 (by decide) (hts _ q_74) (fun _ h9 => h9) rfl dJx4a65c_add_9ea2d_17 ?_
  have hM5 := k280_add l hl9 dC dI z h0 h1 h2 o0 o1 o2 o3 H2.size kc0
  obtain ⟨hF3, hC6⟩ := pc_M hM5 hP hD hK hS hX hT hA [0, 1, 2] [0] rfl rfl rfl
  refine va_callv (va_runV (As := [.ref h1, .ref h2, .int 3]) (rest := []) ⟨hx, hb, hml, hown, hts⟩ hM5 (cwV 3 hts (gV q_123 q_124 q_125 q_12 q_122) rfl rfl rfl hV_Jx4a65c_add_72be8 ⟨Nat.le_of_ble_eq_true rfl, Nat.le_of_ble_eq_true rfl⟩) ⟨pc_blind, va_recv hK hP (ci := 0) (q := (RJx4a65c, TJx4a65c, 3)) (q0 := 0) rfl rfl, fun U hU hW => ⟨rfl, hC6 U hU hW⟩⟩ rfl rfl hl.1 rfl (lv_room (Nat.le_of_ble_eq_true rfl)) dJx4a65c_add_9ea2d_20 ⟨(Nat.le_of_ble_eq_true rfl), (Nat.le_of_ble_eq_true rfl)⟩) hS (fun q9 _ h9 => hF3 q9 h9) hF3 (fun u7 t7 H7 L7 ht7 hvm7 hw7 hB7 hz7 hk7 hS => ?_)
  obtain ⟨hP, hD, hK⟩ := pq_jn (wz := [(h0, ce167 h2), (h1, ce165 (z.2.1 0) o0 h1), (h2, ce146 kc0 o1 o2 o3 h1)]) (tz := [(kc0, .object "java/lang/Object")]) hP hD hK [0, 1, 2] [] rfl hk7 hF3 hB7.1 ht7 hvm7 rfl rfl
  have hG : s.heap.size + 0 ≤ H7.size := Nat.le_trans hG hz7
  refine lv_iconst (v := 1) hx hb dJx4a65c_add_9ea2d_23 (by decide) ?_
  exact W.zret (v := 1) (ty := .boolean) hx hb hr rfl (fun t9 ht9 hW9 => ⟨⟨1, (), rfl, rfl, ⟨pq_mk2 hP hD hK [0, 1, 2] [0] rfl rfl rfl ht9 hW9, by rw [ht9]; exact Nat.le_trans (Nat.add_le_add_left (Nat.le_of_ble_eq_true rfl) _) hG⟩⟩, hS.F ht9⟩) hS.2.2 dJx4a65c_add_9ea2d_24

set_option maxHeartbeats 4000000 in
set_option maxRecDepth 100000 in
theorem k282_placeThoseReady (l : Launch) (hl9 : l.stackTraces = false) (dC : Nat → ClassId) (dI : Nat → Nat → Nat) (z : XZ) (h0 h1 h2 h3 h4 h5 h6 h7 h8 h9 h10 h11 h12 : Nat) (o0 o1 : Nat) (sz : Nat) (kc0 kc1 : ClassId) : Met l yX0_placeThoseReady (.code yX0_placeThoseReady cX0_placeThoseReady 3 none :: wsL_law) ({ frames := 3, cells := 0, slots := 0, locals := 64 }) (va_Pc [.ref h0] (PC (dC, dI) [(h0, ce7 h1 o0 o1 h2), (h1, ce147 h3), (h2, ce149 h4), (h3, ce146 kc0 h5 h6 h7 h8), (h4, ce153 kc1), (h5, ce32 (z.2.1 0) h9 h5), (h6, ce67 (z.2.1 0) h10 h6), (h7, ce99 (z.2.1 0) h11 h7), (h8, ce144 (z.2.1 0) h12 h8), (h9, ce3 z.1), (h10, ce3 z.1), (h11, ce3 z.1), (h12, ce3 z.1)] [(kc0, .object "java/lang/Object"), (kc1, .object "java/lang/Object")] sz z)) (va_Qv (fun (_ : Unit) => True) (fun (_ : Unit) (t : State) => PG (dC, dI) [(h0, ce7 h1 o0 o1 h2), (h1, ce147 h3), (h2, ce167 h4), (h3, ce146 kc0 h5 h6 h7 h8), (h4, ce146 kc1 h5 h6 h7 h8), (h5, ce38 (z.2.1 0) h9 h5), (h6, ce77 (z.2.1 0) h10 h6), (h7, ce115 (z.2.1 0) h11 h7), (h8, ce165 (z.2.1 0) h12 h8), (h9, ce3 z.1), (h10, ce3 z.1), (h11, ce3 z.1), (h12, ce3 z.1)] [(kc0, .object "java/lang/Object"), (kc1, .object "java/lang/Object")] (va_A [(h0, ce7 h1 o0 o1 h2), (h1, ce147 h3), (h2, ce149 h4), (h3, ce146 kc0 h5 h6 h7 h8), (h4, ce153 kc1), (h5, ce32 (z.2.1 0) h9 h5), (h6, ce67 (z.2.1 0) h10 h6), (h7, ce99 (z.2.1 0) h11 h7), (h8, ce144 (z.2.1 0) h12 h8), (h9, ce3 z.1), (h10, ce3 z.1), (h11, ce3 z.1), (h12, ce3 z.1)] sz) sz 0 t) (va_A [(h0, ce7 h1 o0 o1 h2), (h1, ce147 h3), (h2, ce149 h4), (h3, ce146 kc0 h5 h6 h7 h8), (h4, ce153 kc1), (h5, ce32 (z.2.1 0) h9 h5), (h6, ce67 (z.2.1 0) h10 h6), (h7, ce99 (z.2.1 0) h11 h7), (h8, ce144 (z.2.1 0) h12 h8), (h9, ce3 z.1), (h10, ce3 z.1), (h11, ce3 z.1), (h12, ce3 z.1)] sz)) 0 0 (va_A [(h0, ce7 h1 o0 o1 h2), (h1, ce147 h3), (h2, ce149 h4), (h3, ce146 kc0 h5 h6 h7 h8), (h4, ce153 kc1), (h5, ce32 (z.2.1 0) h9 h5), (h6, ce67 (z.2.1 0) h10 h6), (h7, ce99 (z.2.1 0) h11 h7), (h8, ce144 (z.2.1 0) h12 h8), (h9, ce3 z.1), (h10, ce3 z.1), (h11, ce3 z.1), (h12, ce3 z.1)] sz) := by
  refine Met.ofW (cc := cX0_placeThoseReady) (maxL := 3) (ret := none) (by decide) rfl ?_
  intro p e s m args below meth c s₁ B hml hv
  obtain ⟨rfl, hsz, hP, hK, hD0, hX, hT⟩ := hv
  have hx := B.exec
  have hb := B.bytes
  have hr := B.returns
  have hts0 := atoms_spec (ws := .code yX0_placeThoseReady cX0_placeThoseReady 3 none :: wsL_law) B.pre
  have hts := xTail hts0
  have hown : s.vm.findClass RX0 = some m.cls := xown B.named rfl
  have hlocks := B.notSynchronized
  subst hsz
  have hD := hD0.self (sz := s.heap.size)
  generalize hAe : va_A [(h0, ce7 h1 o0 o1 h2), (h1, ce147 h3), (h2, ce149 h4), (h3, ce146 kc0 h5 h6 h7 h8), (h4, ce153 kc1), (h5, ce32 (z.2.1 0) h9 h5), (h6, ce67 (z.2.1 0) h10 h6), (h7, ce99 (z.2.1 0) h11 h7), (h8, ce144 (z.2.1 0) h12 h8), (h9, ce3 z.1), (h10, ce3 z.1), (h11, ce3 z.1), (h12, ce3 z.1)] s.heap.size = A at hD hX ⊢
  have hA : ∀ q : Nat, s.heap.size ≤ q → A q := fun q h => by rw [← hAe]; exact Or.inr h
  have hS : va_S A s.heap s.heap [] := va_S.rf
  have hG : s.heap.size + 0 ≤ s.heap.size := Nat.le_refl _
  have hl := lv_entry ([.ref h0]) (n := 3) (Nat.le_of_ble_eq_true rfl)
  rw [lg_entry_eq]
  generalize (lg_sl ([.ref h0]) ++ List.replicate (3 - (lg_sl ([.ref h0])).length) Slot.unset).toArray = ls at hl ⊢
  have hl : lv_has ls 3 [(0, .ref h0)] := hl
  refine lv_iconst (v := 0) hx hb dX0_placeThoseReady_0 (by decide) ?_
  refine lv_istore_n (lv' := [(1, .int 0), (0, .ref h0)]) hx hb dX0_placeThoseReady_1 rfl hl (by decide) rfl (fun ls hl => ?_)
  refine lv_iload_n hx hb dX0_placeThoseReady_2 rfl (lv_at hl 0 rfl) ?_
  refine lv_aload_n hx hb dX0_placeThoseReady_3 rfl (lv_at hl 1 rfl) ?_
  refine va_get (D := (dC, dI)) (ci := 2) (v := .ref h1) (C := RX0) (T := TX0) (N := 4) hx hb hts in_X0 hown hK hP 0 rfl rfl 0 (by decide) (hts _ q_28) (fun _ h9 => h9) rfl dX0_placeThoseReady_4 ?_
  have hM3 := k20_size l hl9 dC dI z h1 h3 s.heap.size 4 4
  obtain ⟨hF1, hC4⟩ := pc_M hM3 hP hD hK hS hX hT hA [1] [] rfl rfl rfl
  refine va_calli (va_runV (As := []) (rest := [.int 0]) ⟨hx, hb, hml, hown, hts⟩ hM3 (cwV 0 hts (gV q_92 q_77 q_78 q_12 q_75) rfl rfl rfl hV_Jx4a65c_size_8abf5 ⟨Nat.le_of_ble_eq_true rfl, Nat.le_of_ble_eq_true rfl⟩) ⟨pc_blind, va_recv hK hP (ci := 0) (q := (RJx4a65c, TJx4a65c, 3)) (q0 := 1) rfl rfl, fun U hU hW => ⟨rfl, hC4 U hU hW⟩⟩ rfl rfl hl.1 rfl (lv_room (Nat.le_of_ble_eq_true rfl)) dX0_placeThoseReady_7 ⟨(Nat.le_of_ble_eq_true rfl), (Nat.le_of_ble_eq_true rfl)⟩) hS (fun q9 _ h9 => hF1 q9 h9) hF1 (fun r6 u5 t5 H5 L5 ht5 hvm5 hw5 hB5 hz5 hk5 hS => ?_)
  have hP := pq_keep hP hD [1] rfl hk5 hB5.1 ht5
  have hG : s.heap.size + 0 ≤ H5.size := Nat.le_trans hG hz5
  refine W.eq (g2 := F0 m 10 ls [.int 4, .int 0]) (by rw [hw5]) ?_
  refine lv_icmp_ge (tgt := 59) hx hb dX0_placeThoseReady_10 (by decide) (fun cz => absurd cz (by decide)) (fun _ => ?_)
  refine lv_aload_n hx hb dX0_placeThoseReady_13 rfl (lv_at hl 1 rfl) ?_
  refine va_get (D := (dC, dI)) (ci := 2) (v := .ref h1) (C := RX0) (T := TX0) (N := 4) hx hb hts in_X0 hown hK hP 0 rfl rfl 0 (by decide) (hts _ q_28) (fun _ h9 => h9) rfl dX0_placeThoseReady_14 ?_
  refine lv_iload_n hx hb dX0_placeThoseReady_17 rfl (lv_at hl 0 rfl) ?_
  have hM9 := k260_get l hl9 dC dI z h1 h3 h5 h6 h7 h8 H5.size kc0
  obtain ⟨hF7, hC10⟩ := pc_M hM9 hP hD hK hS hX hT hA [1, 3] [0] rfl rfl rfl
  refine va_callr (va_runV (As := [.int 0]) (rest := []) ⟨hx, hb, hml, hown, hts⟩ hM9 (cwV 1 hts (gV q_156 q_157 q_158 q_12 q_155) rfl rfl rfl hV_Jx4a65c_get_915e3 ⟨Nat.le_of_ble_eq_true rfl, Nat.le_of_ble_eq_true rfl⟩) ⟨pc_blind, va_recv hK hP (ci := 0) (q := (RJx4a65c, TJx4a65c, 3)) (q0 := 1) rfl rfl, fun U hU hW => ⟨rfl, hC10 U hU hW⟩⟩ rfl rfl hl.1 rfl (lv_room (Nat.le_of_ble_eq_true rfl)) dX0_placeThoseReady_18 ⟨(Nat.le_of_ble_eq_true rfl), (Nat.le_of_ble_eq_true rfl)⟩) hS (fun q9 _ h9 => hF7 q9 h9) hF7 (fun u11 r12 t11 H11 L11 ht11 hvm11 hw11 hB11 hz11 hk11 hS => ?_)
  obtain ⟨hr11, hB11⟩ := hB11
  have hP := pq_keep hP hD [1, 3] rfl hk11 hB11.1 ht11
  have hG : s.heap.size + 0 ≤ H11.size := Nat.le_trans hG hz11
  refine W.eq (g2 := F0 m 21 ls [.ref h5]) (by rw [hr11]) ?_
  refine va_castE (nm := RX2) hx hb hown (hts _ q_89) (va_recv hK hP (ci := 3) (q := (RX2, TX2, 19)) (q0 := 5) rfl rfl) dX0_placeThoseReady_21 ?_
  refine lv_astore_n (lv' := [(2, .ref h5), (1, .int 0), (0, .ref h0)]) hx hb dX0_placeThoseReady_24 rfl hl (by decide) rfl (fun ls hl => ?_)
  refine lv_aload_n hx hb dX0_placeThoseReady_25 rfl (lv_at hl 0 rfl) ?_
  refine va_get (D := (dC, dI)) (ci := 3) (v := .int 0) (C := RX2) (T := TX2) (N := 19) hx hb hts in_X2 hown hK hP 5 rfl rfl 17 (by decide) (hts _ q_159) (fun _ h9 => h9) rfl dX0_placeThoseReady_26 ?_
  refine lv_if_ne (tgt := 53) hx hb dX0_placeThoseReady_29 (by decide) (fun cz => absurd (by decide) cz) (fun _ => ?_)
  refine lv_aload_n hx hb dX0_placeThoseReady_32 rfl (lv_at hl 0 rfl) ?_
  have hM15 := k25_readsOnlyPlaced l hl9 dC dI z h5 h9 H11.size
  obtain ⟨hF13, hC16⟩ := pc_M hM15 hP hD hK hS hX hT hA [5, 9] [] rfl rfl rfl
  refine va_calli (va_runV (As := []) (rest := []) ⟨hx, hb, hml, hown, hts⟩ hM15 (cwV 0 hts (gV q_162 q_163 q_164 q_91 q_161) rfl rfl rfl hV_X2_readsOnlyPlaced ⟨Nat.le_of_ble_eq_true rfl, Nat.le_of_ble_eq_true rfl⟩) ⟨pc_blind, va_recv hK hP (ci := 3) (q := (RX2, TX2, 19)) (q0 := 5) rfl rfl, fun U hU hW => ⟨rfl, hC16 U hU hW⟩⟩ rfl rfl hl.1 rfl (lv_room (Nat.le_of_ble_eq_true rfl)) dX0_placeThoseReady_33 ⟨(Nat.le_of_ble_eq_true rfl), (Nat.le_of_ble_eq_true rfl)⟩) hS (fun q9 _ h9 => hF13 q9 h9) hF13 (fun r18 u17 t17 H17 L17 ht17 hvm17 hw17 hB17 hz17 hk17 hS => ?_)
  have hP := pq_keep hP hD [5, 9] rfl hk17 hB17.1 ht17
  have hG : s.heap.size + 0 ≤ H17.size := Nat.le_trans hG hz17
  refine W.eq (g2 := F0 m 36 ls [.int 1]) (by rw [hw17]) ?_
  refine lv_if_eq (tgt := 53) hx hb dX0_placeThoseReady_36 (by decide) (fun cz => absurd cz (by decide)) (fun _ => ?_)
  refine lv_aload_n hx hb dX0_placeThoseReady_39 rfl (lv_at hl 0 rfl) ?_
  refine lv_iconst (v := 1) hx hb dX0_placeThoseReady_40 (by decide) ?_
  refine va_put (D := (dC, dI)) (ci := 3) (v := .int 1) (ty := .boolean) (C := RX2) (T := TX2) (N := 19) hx hb hts in_X2 tyX2 tyX2_ok nmX2 hown hK hP hD (va_Sre hS) 5 rfl rfl 17 (by decide) (hts _ q_159) (fun _ h9 => h9) rfl (by decide +kernel) rfl rfl (Nat.le_of_ble_eq_true rfl) dX0_placeThoseReady_41 (fun H19 _ hP hD hS' => ?_)
  have hG : s.heap.size + 0 ≤ H19.size := Nat.le_trans hG hS'.1
  have hS := va_Str hS hS'
  have hP : va_P (dC, dI) xCl [(h0, ce7 h1 o0 o1 h2), (h1, ce147 h3), (h2, ce149 h4), (h3, ce146 kc0 h5 h6 h7 h8), (h4, ce153 kc1), (h5, ce38 (z.2.1 0) h9 h5), (h6, ce67 (z.2.1 0) h10 h6), (h7, ce99 (z.2.1 0) h11 h7), (h8, ce144 (z.2.1 0) h12 h8), (h9, ce3 z.1), (h10, ce3 z.1), (h11, ce3 z.1), (h12, ce3 z.1)] H19 := hP
  have hD := vd_as hP hD rfl
  refine lv_aload_n hx hb dX0_placeThoseReady_44 rfl (lv_at hl 2 rfl) ?_
  refine va_get (D := (dC, dI)) (ci := 2) (v := .ref h2) (C := RX0) (T := TX0) (N := 4) hx hb hts in_X0 hown hK hP 0 rfl rfl 3 (by decide) (hts _ q_31) (fun _ h9 => h9) rfl dX0_placeThoseReady_45 ?_
  refine lv_aload_n hx hb dX0_placeThoseReady_48 rfl (lv_at hl 0 rfl) ?_
  have hM22 := k274_add l hl9 dC dI z h2 h5 h4 h9 H19.size kc1
  obtain ⟨hF20, hC23⟩ := pc_M hM22 hP hD hK hS hX hT hA [2, 5, 4] [1] rfl rfl rfl
  refine va_calli (va_runV (As := [.ref h5]) (rest := []) ⟨hx, hb, hml, hown, hts⟩ hM22 (cwV 1 hts (gV q_127 q_128 q_129 q_12 q_126) rfl rfl rfl hV_Jx4a65c_add_9ea2d ⟨Nat.le_of_ble_eq_true rfl, Nat.le_of_ble_eq_true rfl⟩) ⟨pc_blind, va_recv hK hP (ci := 0) (q := (RJx4a65c, TJx4a65c, 3)) (q0 := 2) rfl rfl, fun U hU hW => ⟨rfl, hC23 U hU hW⟩⟩ rfl rfl hl.1 rfl (lv_room (Nat.le_of_ble_eq_true rfl)) dX0_placeThoseReady_49 ⟨(Nat.le_of_ble_eq_true rfl), (Nat.le_of_ble_eq_true rfl)⟩) hS (fun q9 _ h9 => hF20 q9 h9) hF20 (fun r25 u24 t24 H24 L24 ht24 hvm24 hw24 hB24 hz24 hk24 hS => ?_)
  obtain ⟨hP, hD, hK⟩ := pq_jn (wz := [(h0, ce7 h1 o0 o1 h2), (h1, ce147 h3), (h3, ce146 kc0 h5 h6 h7 h8), (h6, ce67 (z.2.1 0) h10 h6), (h7, ce99 (z.2.1 0) h11 h7), (h8, ce144 (z.2.1 0) h12 h8), (h9, ce3 z.1), (h10, ce3 z.1), (h11, ce3 z.1), (h12, ce3 z.1), (h2, ce156 h4), (h5, ce38 (z.2.1 0) h9 h5), (h4, ce157 kc1 h5)]) (tz := [(kc0, .object "java/lang/Object"), (kc1, .object "java/lang/Object")]) hP hD hK [2, 5, 4] [0] rfl hk24 hF20 hB24.1 ht24 hvm24 rfl rfl
  have hG : s.heap.size + 0 ≤ H24.size := Nat.le_trans hG hz24
  refine W.eq (g2 := F0 m 52 ls [.int 1]) (by rw [hw24]) ?_
  refine lv_pop hx hb dX0_placeThoseReady_52 rfl ?_
  refine lv_iinc (v := 1) (lv' := [(1, .int 1), (2, .ref h5), (0, .ref h0)]) hx hb dX0_placeThoseReady_53 hl (k := 1) rfl (by decide) (by decide) rfl (fun ls hl => ?_)
  refine lv_goto (tgt := 2) hx hb dX0_placeThoseReady_56 (by decide) ?_
  refine lv_iload_n hx hb dX0_placeThoseReady_2 rfl (lv_at hl 0 rfl) ?_
  refine lv_aload_n hx hb dX0_placeThoseReady_3 rfl (lv_at hl 2 rfl) ?_
  refine va_get (D := (dC, dI)) (ci := 2) (v := .ref h1) (C := RX0) (T := TX0) (N := 4) hx hb hts in_X0 hown hK hP 0 rfl rfl 0 (by decide) (hts _ q_28) (fun _ h9 => h9) rfl dX0_placeThoseReady_4 ?_
  have hM28 := k20_size l hl9 dC dI z h1 h3 H24.size 4 4
  obtain ⟨hF26, hC29⟩ := pc_M hM28 hP hD hK hS hX hT hA [1] [] rfl rfl rfl
  refine va_calli (va_runV (As := []) (rest := [.int 1]) ⟨hx, hb, hml, hown, hts⟩ hM28 (cwV 0 hts (gV q_92 q_77 q_78 q_12 q_75) rfl rfl rfl hV_Jx4a65c_size_8abf5 ⟨Nat.le_of_ble_eq_true rfl, Nat.le_of_ble_eq_true rfl⟩) ⟨pc_blind, va_recv hK hP (ci := 0) (q := (RJx4a65c, TJx4a65c, 3)) (q0 := 1) rfl rfl, fun U hU hW => ⟨rfl, hC29 U hU hW⟩⟩ rfl rfl hl.1 rfl (lv_room (Nat.le_of_ble_eq_true rfl)) dX0_placeThoseReady_7 ⟨(Nat.le_of_ble_eq_true rfl), (Nat.le_of_ble_eq_true rfl)⟩) hS (fun q9 _ h9 => hF26 q9 h9) hF26 (fun r31 u30 t30 H30 L30 ht30 hvm30 hw30 hB30 hz30 hk30 hS => ?_)
  have hP := pq_keep hP hD [1] rfl hk30 hB30.1 ht30
  have hG : s.heap.size + 0 ≤ H30.size := Nat.le_trans hG hz30
  refine W.eq (g2 := F0 m 10 ls [.int 4, .int 1]) (by rw [hw30]) ?_
  refine lv_icmp_ge (tgt := 59) hx hb dX0_placeThoseReady_10 (by decide) (fun cz => absurd cz (by decide)) (fun _ => ?_)
  refine lv_aload_n hx hb dX0_placeThoseReady_13 rfl (lv_at hl 2 rfl) ?_
  refine va_get (D := (dC, dI)) (ci := 2) (v := .ref h1) (C := RX0) (T := TX0) (N := 4) hx hb hts in_X0 hown hK hP 0 rfl rfl 0 (by decide) (hts _ q_28) (fun _ h9 => h9) rfl dX0_placeThoseReady_14 ?_
  refine lv_iload_n hx hb dX0_placeThoseReady_17 rfl (lv_at hl 0 rfl) ?_
  have hM34 := k264_get l hl9 dC dI z h1 h3 h5 h6 h7 h8 H30.size kc0
  obtain ⟨hF32, hC35⟩ := pc_M hM34 hP hD hK hS hX hT hA [1, 2] [0] rfl rfl rfl
  refine va_callr (va_runV (As := [.int 1]) (rest := []) ⟨hx, hb, hml, hown, hts⟩ hM34 (cwV 1 hts (gV q_156 q_157 q_158 q_12 q_155) rfl rfl rfl hV_Jx4a65c_get_915e3 ⟨Nat.le_of_ble_eq_true rfl, Nat.le_of_ble_eq_true rfl⟩) ⟨pc_blind, va_recv hK hP (ci := 0) (q := (RJx4a65c, TJx4a65c, 3)) (q0 := 1) rfl rfl, fun U hU hW => ⟨rfl, hC35 U hU hW⟩⟩ rfl rfl hl.1 rfl (lv_room (Nat.le_of_ble_eq_true rfl)) dX0_placeThoseReady_18 ⟨(Nat.le_of_ble_eq_true rfl), (Nat.le_of_ble_eq_true rfl)⟩) hS (fun q9 _ h9 => hF32 q9 h9) hF32 (fun u36 r37 t36 H36 L36 ht36 hvm36 hw36 hB36 hz36 hk36 hS => ?_)
  obtain ⟨hr36, hB36⟩ := hB36
  have hP := pq_keep hP hD [1, 2] rfl hk36 hB36.1 ht36
  have hG : s.heap.size + 0 ≤ H36.size := Nat.le_trans hG hz36
  refine W.eq (g2 := F0 m 21 ls [.ref h6]) (by rw [hr36]) ?_
  refine va_castE (nm := RX2) hx hb hown (hts _ q_89) (va_recv hK hP (ci := 3) (q := (RX2, TX2, 19)) (q0 := 3) rfl rfl) dX0_placeThoseReady_21 ?_
  refine lv_astore_n (lv' := [(2, .ref h6), (1, .int 1), (0, .ref h0)]) hx hb dX0_placeThoseReady_24 rfl hl (by decide) rfl (fun ls hl => ?_)
  refine lv_aload_n hx hb dX0_placeThoseReady_25 rfl (lv_at hl 0 rfl) ?_
  refine va_get (D := (dC, dI)) (ci := 3) (v := .int 0) (C := RX2) (T := TX2) (N := 19) hx hb hts in_X2 hown hK hP 3 rfl rfl 17 (by decide) (hts _ q_159) (fun _ h9 => h9) rfl dX0_placeThoseReady_26 ?_
  refine lv_if_ne (tgt := 53) hx hb dX0_placeThoseReady_29 (by decide) (fun cz => absurd (by decide) cz) (fun _ => ?_)
  refine lv_aload_n hx hb dX0_placeThoseReady_32 rfl (lv_at hl 0 rfl) ?_
  have hM40 := k98_readsOnlyPlaced l hl9 dC dI z h6 h10 H36.size
  obtain ⟨hF38, hC41⟩ := pc_M hM40 hP hD hK hS hX hT hA [3, 7] [] rfl rfl rfl
  refine va_calli (va_runV (As := []) (rest := []) ⟨hx, hb, hml, hown, hts⟩ hM40 (cwV 0 hts (gV q_162 q_163 q_164 q_91 q_161) rfl rfl rfl hV_X2_readsOnlyPlaced ⟨Nat.le_of_ble_eq_true rfl, Nat.le_of_ble_eq_true rfl⟩) ⟨pc_blind, va_recv hK hP (ci := 3) (q := (RX2, TX2, 19)) (q0 := 3) rfl rfl, fun U hU hW => ⟨rfl, hC41 U hU hW⟩⟩ rfl rfl hl.1 rfl (lv_room (Nat.le_of_ble_eq_true rfl)) dX0_placeThoseReady_33 ⟨(Nat.le_of_ble_eq_true rfl), (Nat.le_of_ble_eq_true rfl)⟩) hS (fun q9 _ h9 => hF38 q9 h9) hF38 (fun r43 u42 t42 H42 L42 ht42 hvm42 hw42 hB42 hz42 hk42 hS => ?_)
  have hP := pq_keep hP hD [3, 7] rfl hk42 hB42.1 ht42
  have hG : s.heap.size + 0 ≤ H42.size := Nat.le_trans hG hz42
  refine W.eq (g2 := F0 m 36 ls [.int 1]) (by rw [hw42]) ?_
  refine lv_if_eq (tgt := 53) hx hb dX0_placeThoseReady_36 (by decide) (fun cz => absurd cz (by decide)) (fun _ => ?_)
  refine lv_aload_n hx hb dX0_placeThoseReady_39 rfl (lv_at hl 0 rfl) ?_
  refine lv_iconst (v := 1) hx hb dX0_placeThoseReady_40 (by decide) ?_
  refine va_put (D := (dC, dI)) (ci := 3) (v := .int 1) (ty := .boolean) (C := RX2) (T := TX2) (N := 19) hx hb hts in_X2 tyX2 tyX2_ok nmX2 hown hK hP hD (va_Sre hS) 3 rfl rfl 17 (by decide) (hts _ q_159) (fun _ h9 => h9) rfl (by decide +kernel) rfl rfl (Nat.le_of_ble_eq_true rfl) dX0_placeThoseReady_41 (fun H44 _ hP hD hS' => ?_)
  have hG : s.heap.size + 0 ≤ H44.size := Nat.le_trans hG hS'.1
  have hS := va_Str hS hS'
  have hP : va_P (dC, dI) xCl [(h0, ce7 h1 o0 o1 h2), (h1, ce147 h3), (h3, ce146 kc0 h5 h6 h7 h8), (h6, ce77 (z.2.1 0) h10 h6), (h7, ce99 (z.2.1 0) h11 h7), (h8, ce144 (z.2.1 0) h12 h8), (h9, ce3 z.1), (h10, ce3 z.1), (h11, ce3 z.1), (h12, ce3 z.1), (h2, ce156 h4), (h5, ce38 (z.2.1 0) h9 h5), (h4, ce157 kc1 h5)] H44 := hP
  have hD := vd_as hP hD rfl
  refine lv_aload_n hx hb dX0_placeThoseReady_44 rfl (lv_at hl 2 rfl) ?_
  refine va_get (D := (dC, dI)) (ci := 2) (v := .ref h2) (C := RX0) (T := TX0) (N := 4) hx hb hts in_X0 hown hK hP 0 rfl rfl 3 (by decide) (hts _ q_31) (fun _ h9 => h9) rfl dX0_placeThoseReady_45 ?_
  refine lv_aload_n hx hb dX0_placeThoseReady_48 rfl (lv_at hl 0 rfl) ?_
  have hM47 := k276_add l hl9 dC dI z h2 h6 h4 h10 h5 H44.size kc1
  obtain ⟨hF45, hC48⟩ := pc_M hM47 hP hD hK hS hX hT hA [10, 3, 12] [1] rfl rfl rfl
  refine va_calli (va_runV (As := [.ref h6]) (rest := []) ⟨hx, hb, hml, hown, hts⟩ hM47 (cwV 1 hts (gV q_127 q_128 q_129 q_12 q_126) rfl rfl rfl hV_Jx4a65c_add_9ea2d ⟨Nat.le_of_ble_eq_true rfl, Nat.le_of_ble_eq_true rfl⟩) ⟨pc_blind, va_recv hK hP (ci := 0) (q := (RJx4a65c, TJx4a65c, 3)) (q0 := 10) rfl rfl, fun U hU hW => ⟨rfl, hC48 U hU hW⟩⟩ rfl rfl hl.1 rfl (lv_room (Nat.le_of_ble_eq_true rfl)) dX0_placeThoseReady_49 ⟨(Nat.le_of_ble_eq_true rfl), (Nat.le_of_ble_eq_true rfl)⟩) hS (fun q9 _ h9 => hF45 q9 h9) hF45 (fun r50 u49 t49 H49 L49 ht49 hvm49 hw49 hB49 hz49 hk49 hS => ?_)
  obtain ⟨hP, hD, hK⟩ := pq_jn (wz := [(h0, ce7 h1 o0 o1 h2), (h1, ce147 h3), (h3, ce146 kc0 h5 h6 h7 h8), (h7, ce99 (z.2.1 0) h11 h7), (h8, ce144 (z.2.1 0) h12 h8), (h9, ce3 z.1), (h10, ce3 z.1), (h11, ce3 z.1), (h12, ce3 z.1), (h5, ce38 (z.2.1 0) h9 h5), (h2, ce160 h4), (h6, ce77 (z.2.1 0) h10 h6), (h4, ce161 kc1 h5 h6)]) (tz := [(kc0, .object "java/lang/Object"), (kc1, .object "java/lang/Object")]) hP hD hK [10, 3, 12] [0] rfl hk49 hF45 hB49.1 ht49 hvm49 rfl rfl
  have hG : s.heap.size + 0 ≤ H49.size := Nat.le_trans hG hz49
  refine W.eq (g2 := F0 m 52 ls [.int 1]) (by rw [hw49]) ?_
  refine lv_pop hx hb dX0_placeThoseReady_52 rfl ?_
  refine lv_iinc (v := 2) (lv' := [(1, .int 2), (2, .ref h6), (0, .ref h0)]) hx hb dX0_placeThoseReady_53 hl (k := 1) rfl (by decide) (by decide) rfl (fun ls hl => ?_)
  refine lv_goto (tgt := 2) hx hb dX0_placeThoseReady_56 (by decide) ?_
  refine lv_iload_n hx hb dX0_placeThoseReady_2 rfl (lv_at hl 0 rfl) ?_
  refine lv_aload_n hx hb dX0_placeThoseReady_3 rfl (lv_at hl 2 rfl) ?_
  refine va_get (D := (dC, dI)) (ci := 2) (v := .ref h1) (C := RX0) (T := TX0) (N := 4) hx hb hts in_X0 hown hK hP 0 rfl rfl 0 (by decide) (hts _ q_28) (fun _ h9 => h9) rfl dX0_placeThoseReady_4 ?_
  have hM53 := k20_size l hl9 dC dI z h1 h3 H49.size 4 4
  obtain ⟨hF51, hC54⟩ := pc_M hM53 hP hD hK hS hX hT hA [1] [] rfl rfl rfl
  refine va_calli (va_runV (As := []) (rest := [.int 2]) ⟨hx, hb, hml, hown, hts⟩ hM53 (cwV 0 hts (gV q_92 q_77 q_78 q_12 q_75) rfl rfl rfl hV_Jx4a65c_size_8abf5 ⟨Nat.le_of_ble_eq_true rfl, Nat.le_of_ble_eq_true rfl⟩) ⟨pc_blind, va_recv hK hP (ci := 0) (q := (RJx4a65c, TJx4a65c, 3)) (q0 := 1) rfl rfl, fun U hU hW => ⟨rfl, hC54 U hU hW⟩⟩ rfl rfl hl.1 rfl (lv_room (Nat.le_of_ble_eq_true rfl)) dX0_placeThoseReady_7 ⟨(Nat.le_of_ble_eq_true rfl), (Nat.le_of_ble_eq_true rfl)⟩) hS (fun q9 _ h9 => hF51 q9 h9) hF51 (fun r56 u55 t55 H55 L55 ht55 hvm55 hw55 hB55 hz55 hk55 hS => ?_)
  have hP := pq_keep hP hD [1] rfl hk55 hB55.1 ht55
  have hG : s.heap.size + 0 ≤ H55.size := Nat.le_trans hG hz55
  refine W.eq (g2 := F0 m 10 ls [.int 4, .int 2]) (by rw [hw55]) ?_
  refine lv_icmp_ge (tgt := 59) hx hb dX0_placeThoseReady_10 (by decide) (fun cz => absurd cz (by decide)) (fun _ => ?_)
  refine lv_aload_n hx hb dX0_placeThoseReady_13 rfl (lv_at hl 2 rfl) ?_
  refine va_get (D := (dC, dI)) (ci := 2) (v := .ref h1) (C := RX0) (T := TX0) (N := 4) hx hb hts in_X0 hown hK hP 0 rfl rfl 0 (by decide) (hts _ q_28) (fun _ h9 => h9) rfl dX0_placeThoseReady_14 ?_
  refine lv_iload_n hx hb dX0_placeThoseReady_17 rfl (lv_at hl 0 rfl) ?_
  have hM59 := k268_get l hl9 dC dI z h1 h3 h5 h6 h7 h8 H55.size kc0
  obtain ⟨hF57, hC60⟩ := pc_M hM59 hP hD hK hS hX hT hA [1, 2] [0] rfl rfl rfl
  refine va_callr (va_runV (As := [.int 2]) (rest := []) ⟨hx, hb, hml, hown, hts⟩ hM59 (cwV 1 hts (gV q_156 q_157 q_158 q_12 q_155) rfl rfl rfl hV_Jx4a65c_get_915e3 ⟨Nat.le_of_ble_eq_true rfl, Nat.le_of_ble_eq_true rfl⟩) ⟨pc_blind, va_recv hK hP (ci := 0) (q := (RJx4a65c, TJx4a65c, 3)) (q0 := 1) rfl rfl, fun U hU hW => ⟨rfl, hC60 U hU hW⟩⟩ rfl rfl hl.1 rfl (lv_room (Nat.le_of_ble_eq_true rfl)) dX0_placeThoseReady_18 ⟨(Nat.le_of_ble_eq_true rfl), (Nat.le_of_ble_eq_true rfl)⟩) hS (fun q9 _ h9 => hF57 q9 h9) hF57 (fun u61 r62 t61 H61 L61 ht61 hvm61 hw61 hB61 hz61 hk61 hS => ?_)
  obtain ⟨hr61, hB61⟩ := hB61
  have hP := pq_keep hP hD [1, 2] rfl hk61 hB61.1 ht61
  have hG : s.heap.size + 0 ≤ H61.size := Nat.le_trans hG hz61
  refine W.eq (g2 := F0 m 21 ls [.ref h7]) (by rw [hr61]) ?_
  refine va_castE (nm := RX2) hx hb hown (hts _ q_89) (va_recv hK hP (ci := 3) (q := (RX2, TX2, 19)) (q0 := 3) rfl rfl) dX0_placeThoseReady_21 ?_
  refine lv_astore_n (lv' := [(2, .ref h7), (1, .int 2), (0, .ref h0)]) hx hb dX0_placeThoseReady_24 rfl hl (by decide) rfl (fun ls hl => ?_)
  refine lv_aload_n hx hb dX0_placeThoseReady_25 rfl (lv_at hl 0 rfl) ?_
  refine va_get (D := (dC, dI)) (ci := 3) (v := .int 0) (C := RX2) (T := TX2) (N := 19) hx hb hts in_X2 hown hK hP 3 rfl rfl 17 (by decide) (hts _ q_159) (fun _ h9 => h9) rfl dX0_placeThoseReady_26 ?_
  refine lv_if_ne (tgt := 53) hx hb dX0_placeThoseReady_29 (by decide) (fun cz => absurd (by decide) cz) (fun _ => ?_)
  refine lv_aload_n hx hb dX0_placeThoseReady_32 rfl (lv_at hl 0 rfl) ?_
  have hM65 := k181_readsOnlyPlaced l hl9 dC dI z h7 h11 H61.size
  obtain ⟨hF63, hC66⟩ := pc_M hM65 hP hD hK hS hX hT hA [3, 7] [] rfl rfl rfl
  refine va_calli (va_runV (As := []) (rest := []) ⟨hx, hb, hml, hown, hts⟩ hM65 (cwV 0 hts (gV q_162 q_163 q_164 q_91 q_161) rfl rfl rfl hV_X2_readsOnlyPlaced ⟨Nat.le_of_ble_eq_true rfl, Nat.le_of_ble_eq_true rfl⟩) ⟨pc_blind, va_recv hK hP (ci := 3) (q := (RX2, TX2, 19)) (q0 := 3) rfl rfl, fun U hU hW => ⟨rfl, hC66 U hU hW⟩⟩ rfl rfl hl.1 rfl (lv_room (Nat.le_of_ble_eq_true rfl)) dX0_placeThoseReady_33 ⟨(Nat.le_of_ble_eq_true rfl), (Nat.le_of_ble_eq_true rfl)⟩) hS (fun q9 _ h9 => hF63 q9 h9) hF63 (fun r68 u67 t67 H67 L67 ht67 hvm67 hw67 hB67 hz67 hk67 hS => ?_)
  have hP := pq_keep hP hD [3, 7] rfl hk67 hB67.1 ht67
  have hG : s.heap.size + 0 ≤ H67.size := Nat.le_trans hG hz67
  refine W.eq (g2 := F0 m 36 ls [.int 1]) (by rw [hw67]) ?_
  refine lv_if_eq (tgt := 53) hx hb dX0_placeThoseReady_36 (by decide) (fun cz => absurd cz (by decide)) (fun _ => ?_)
  refine lv_aload_n hx hb dX0_placeThoseReady_39 rfl (lv_at hl 0 rfl) ?_
  refine lv_iconst (v := 1) hx hb dX0_placeThoseReady_40 (by decide) ?_
  refine va_put (D := (dC, dI)) (ci := 3) (v := .int 1) (ty := .boolean) (C := RX2) (T := TX2) (N := 19) hx hb hts in_X2 tyX2 tyX2_ok nmX2 hown hK hP hD (va_Sre hS) 3 rfl rfl 17 (by decide) (hts _ q_159) (fun _ h9 => h9) rfl (by decide +kernel) rfl rfl (Nat.le_of_ble_eq_true rfl) dX0_placeThoseReady_41 (fun H69 _ hP hD hS' => ?_)
  have hG : s.heap.size + 0 ≤ H69.size := Nat.le_trans hG hS'.1
  have hS := va_Str hS hS'
  have hP : va_P (dC, dI) xCl [(h0, ce7 h1 o0 o1 h2), (h1, ce147 h3), (h3, ce146 kc0 h5 h6 h7 h8), (h7, ce115 (z.2.1 0) h11 h7), (h8, ce144 (z.2.1 0) h12 h8), (h9, ce3 z.1), (h10, ce3 z.1), (h11, ce3 z.1), (h12, ce3 z.1), (h5, ce38 (z.2.1 0) h9 h5), (h2, ce160 h4), (h6, ce77 (z.2.1 0) h10 h6), (h4, ce161 kc1 h5 h6)] H69 := hP
  have hD := vd_as hP hD rfl
  refine lv_aload_n hx hb dX0_placeThoseReady_44 rfl (lv_at hl 2 rfl) ?_
  refine va_get (D := (dC, dI)) (ci := 2) (v := .ref h2) (C := RX0) (T := TX0) (N := 4) hx hb hts in_X0 hown hK hP 0 rfl rfl 3 (by decide) (hts _ q_31) (fun _ h9 => h9) rfl dX0_placeThoseReady_45 ?_
  refine lv_aload_n hx hb dX0_placeThoseReady_48 rfl (lv_at hl 0 rfl) ?_
  have hM72 := k278_add l hl9 dC dI z h2 h7 h4 h11 h5 h6 H69.size kc1
  obtain ⟨hF70, hC73⟩ := pc_M hM72 hP hD hK hS hX hT hA [10, 3, 12] [1] rfl rfl rfl
  refine va_calli (va_runV (As := [.ref h7]) (rest := []) ⟨hx, hb, hml, hown, hts⟩ hM72 (cwV 1 hts (gV q_127 q_128 q_129 q_12 q_126) rfl rfl rfl hV_Jx4a65c_add_9ea2d ⟨Nat.le_of_ble_eq_true rfl, Nat.le_of_ble_eq_true rfl⟩) ⟨pc_blind, va_recv hK hP (ci := 0) (q := (RJx4a65c, TJx4a65c, 3)) (q0 := 10) rfl rfl, fun U hU hW => ⟨rfl, hC73 U hU hW⟩⟩ rfl rfl hl.1 rfl (lv_room (Nat.le_of_ble_eq_true rfl)) dX0_placeThoseReady_49 ⟨(Nat.le_of_ble_eq_true rfl), (Nat.le_of_ble_eq_true rfl)⟩) hS (fun q9 _ h9 => hF70 q9 h9) hF70 (fun r75 u74 t74 H74 L74 ht74 hvm74 hw74 hB74 hz74 hk74 hS => ?_)
  obtain ⟨hP, hD, hK⟩ := pq_jn (wz := [(h0, ce7 h1 o0 o1 h2), (h1, ce147 h3), (h3, ce146 kc0 h5 h6 h7 h8), (h8, ce144 (z.2.1 0) h12 h8), (h9, ce3 z.1), (h10, ce3 z.1), (h11, ce3 z.1), (h12, ce3 z.1), (h5, ce38 (z.2.1 0) h9 h5), (h6, ce77 (z.2.1 0) h10 h6), (h2, ce164 h4), (h7, ce115 (z.2.1 0) h11 h7), (h4, ce101 kc1 h5 h6 h7)]) (tz := [(kc0, .object "java/lang/Object"), (kc1, .object "java/lang/Object")]) hP hD hK [10, 3, 12] [0] rfl hk74 hF70 hB74.1 ht74 hvm74 rfl rfl
  have hG : s.heap.size + 0 ≤ H74.size := Nat.le_trans hG hz74
  refine W.eq (g2 := F0 m 52 ls [.int 1]) (by rw [hw74]) ?_
  refine lv_pop hx hb dX0_placeThoseReady_52 rfl ?_
  refine lv_iinc (v := 3) (lv' := [(1, .int 3), (2, .ref h7), (0, .ref h0)]) hx hb dX0_placeThoseReady_53 hl (k := 1) rfl (by decide) (by decide) rfl (fun ls hl => ?_)
  refine lv_goto (tgt := 2) hx hb dX0_placeThoseReady_56 (by decide) ?_
  refine lv_iload_n hx hb dX0_placeThoseReady_2 rfl (lv_at hl 0 rfl) ?_
  refine lv_aload_n hx hb dX0_placeThoseReady_3 rfl (lv_at hl 2 rfl) ?_
  refine va_get (D := (dC, dI)) (ci := 2) (v := .ref h1) (C := RX0) (T := TX0) (N := 4) hx hb hts in_X0 hown hK hP 0 rfl rfl 0 (by decide) (hts _ q_28) (fun _ h9 => h9) rfl dX0_placeThoseReady_4 ?_
  have hM78 := k20_size l hl9 dC dI z h1 h3 H74.size 4 4
  obtain ⟨hF76, hC79⟩ := pc_M hM78 hP hD hK hS hX hT hA [1] [] rfl rfl rfl
  refine va_calli (va_runV (As := []) (rest := [.int 3]) ⟨hx, hb, hml, hown, hts⟩ hM78 (cwV 0 hts (gV q_92 q_77 q_78 q_12 q_75) rfl rfl rfl hV_Jx4a65c_size_8abf5 ⟨Nat.le_of_ble_eq_true rfl, Nat.le_of_ble_eq_true rfl⟩) ⟨pc_blind, va_recv hK hP (ci := 0) (q := (RJx4a65c, TJx4a65c, 3)) (q0 := 1) rfl rfl, fun U hU hW => ⟨rfl, hC79 U hU hW⟩⟩ rfl rfl hl.1 rfl (lv_room (Nat.le_of_ble_eq_true rfl)) dX0_placeThoseReady_7 ⟨(Nat.le_of_ble_eq_true rfl), (Nat.le_of_ble_eq_true rfl)⟩) hS (fun q9 _ h9 => hF76 q9 h9) hF76 (fun r81 u80 t80 H80 L80 ht80 hvm80 hw80 hB80 hz80 hk80 hS => ?_)
  have hP := pq_keep hP hD [1] rfl hk80 hB80.1 ht80
  have hG : s.heap.size + 0 ≤ H80.size := Nat.le_trans hG hz80
  refine W.eq (g2 := F0 m 10 ls [.int 4, .int 3]) (by rw [hw80]) ?_
  refine lv_icmp_ge (tgt := 59) hx hb dX0_placeThoseReady_10 (by decide) (fun cz => absurd cz (by decide)) (fun _ => ?_)
  refine lv_aload_n hx hb dX0_placeThoseReady_13 rfl (lv_at hl 2 rfl) ?_
  refine va_get (D := (dC, dI)) (ci := 2) (v := .ref h1) (C := RX0) (T := TX0) (N := 4) hx hb hts in_X0 hown hK hP 0 rfl rfl 0 (by decide) (hts _ q_28) (fun _ h9 => h9) rfl dX0_placeThoseReady_14 ?_
  refine lv_iload_n hx hb dX0_placeThoseReady_17 rfl (lv_at hl 0 rfl) ?_
  have hM84 := k272_get l hl9 dC dI z h1 h3 h5 h6 h7 h8 H80.size kc0
  obtain ⟨hF82, hC85⟩ := pc_M hM84 hP hD hK hS hX hT hA [1, 2] [0] rfl rfl rfl
  refine va_callr (va_runV (As := [.int 3]) (rest := []) ⟨hx, hb, hml, hown, hts⟩ hM84 (cwV 1 hts (gV q_156 q_157 q_158 q_12 q_155) rfl rfl rfl hV_Jx4a65c_get_915e3 ⟨Nat.le_of_ble_eq_true rfl, Nat.le_of_ble_eq_true rfl⟩) ⟨pc_blind, va_recv hK hP (ci := 0) (q := (RJx4a65c, TJx4a65c, 3)) (q0 := 1) rfl rfl, fun U hU hW => ⟨rfl, hC85 U hU hW⟩⟩ rfl rfl hl.1 rfl (lv_room (Nat.le_of_ble_eq_true rfl)) dX0_placeThoseReady_18 ⟨(Nat.le_of_ble_eq_true rfl), (Nat.le_of_ble_eq_true rfl)⟩) hS (fun q9 _ h9 => hF82 q9 h9) hF82 (fun u86 r87 t86 H86 L86 ht86 hvm86 hw86 hB86 hz86 hk86 hS => ?_)
  obtain ⟨hr86, hB86⟩ := hB86
  have hP := pq_keep hP hD [1, 2] rfl hk86 hB86.1 ht86
  have hG : s.heap.size + 0 ≤ H86.size := Nat.le_trans hG hz86
  refine W.eq (g2 := F0 m 21 ls [.ref h8]) (by rw [hr86]) ?_
  refine va_castE (nm := RX2) hx hb hown (hts _ q_89) (va_recv hK hP (ci := 3) (q := (RX2, TX2, 19)) (q0 := 3) rfl rfl) dX0_placeThoseReady_21 ?_
  refine lv_astore_n (lv' := [(2, .ref h8), (1, .int 3), (0, .ref h0)]) hx hb dX0_placeThoseReady_24 rfl hl (by decide) rfl (fun ls hl => ?_)
  refine lv_aload_n hx hb dX0_placeThoseReady_25 rfl (lv_at hl 0 rfl) ?_
  refine va_get (D := (dC, dI)) (ci := 3) (v := .int 0) (C := RX2) (T := TX2) (N := 19) hx hb hts in_X2 hown hK hP 3 rfl rfl 17 (by decide) (hts _ q_159) (fun _ h9 => h9) rfl dX0_placeThoseReady_26 ?_
  refine lv_if_ne (tgt := 53) hx hb dX0_placeThoseReady_29 (by decide) (fun cz => absurd (by decide) cz) (fun _ => ?_)
  refine lv_aload_n hx hb dX0_placeThoseReady_32 rfl (lv_at hl 0 rfl) ?_
  have hM90 := k279_readsOnlyPlaced l hl9 dC dI z h8 h12 H86.size
  obtain ⟨hF88, hC91⟩ := pc_M hM90 hP hD hK hS hX hT hA [3, 7] [] rfl rfl rfl
  refine va_calli (va_runV (As := []) (rest := []) ⟨hx, hb, hml, hown, hts⟩ hM90 (cwV 0 hts (gV q_162 q_163 q_164 q_91 q_161) rfl rfl rfl hV_X2_readsOnlyPlaced ⟨Nat.le_of_ble_eq_true rfl, Nat.le_of_ble_eq_true rfl⟩) ⟨pc_blind, va_recv hK hP (ci := 3) (q := (RX2, TX2, 19)) (q0 := 3) rfl rfl, fun U hU hW => ⟨rfl, hC91 U hU hW⟩⟩ rfl rfl hl.1 rfl (lv_room (Nat.le_of_ble_eq_true rfl)) dX0_placeThoseReady_33 ⟨(Nat.le_of_ble_eq_true rfl), (Nat.le_of_ble_eq_true rfl)⟩) hS (fun q9 _ h9 => hF88 q9 h9) hF88 (fun r93 u92 t92 H92 L92 ht92 hvm92 hw92 hB92 hz92 hk92 hS => ?_)
  have hP := pq_keep hP hD [3, 7] rfl hk92 hB92.1 ht92
  have hG : s.heap.size + 0 ≤ H92.size := Nat.le_trans hG hz92
  refine W.eq (g2 := F0 m 36 ls [.int 1]) (by rw [hw92]) ?_
  refine lv_if_eq (tgt := 53) hx hb dX0_placeThoseReady_36 (by decide) (fun cz => absurd cz (by decide)) (fun _ => ?_)
  refine lv_aload_n hx hb dX0_placeThoseReady_39 rfl (lv_at hl 0 rfl) ?_
  refine lv_iconst (v := 1) hx hb dX0_placeThoseReady_40 (by decide) ?_
  refine va_put (D := (dC, dI)) (ci := 3) (v := .int 1) (ty := .boolean) (C := RX2) (T := TX2) (N := 19) hx hb hts in_X2 tyX2 tyX2_ok nmX2 hown hK hP hD (va_Sre hS) 3 rfl rfl 17 (by decide) (hts _ q_159) (fun _ h9 => h9) rfl (by decide +kernel) rfl rfl (Nat.le_of_ble_eq_true rfl) dX0_placeThoseReady_41 (fun H94 _ hP hD hS' => ?_)
  have hG : s.heap.size + 0 ≤ H94.size := Nat.le_trans hG hS'.1
  have hS := va_Str hS hS'
  have hP : va_P (dC, dI) xCl [(h0, ce7 h1 o0 o1 h2), (h1, ce147 h3), (h3, ce146 kc0 h5 h6 h7 h8), (h8, ce165 (z.2.1 0) h12 h8), (h9, ce3 z.1), (h10, ce3 z.1), (h11, ce3 z.1), (h12, ce3 z.1), (h5, ce38 (z.2.1 0) h9 h5), (h6, ce77 (z.2.1 0) h10 h6), (h2, ce164 h4), (h7, ce115 (z.2.1 0) h11 h7), (h4, ce101 kc1 h5 h6 h7)] H94 := hP
  have hD := vd_as hP hD rfl
  refine lv_aload_n hx hb dX0_placeThoseReady_44 rfl (lv_at hl 2 rfl) ?_
  refine va_get (D := (dC, dI)) (ci := 2) (v := .ref h2) (C := RX0) (T := TX0) (N := 4) hx hb hts in_X0 hown hK hP 0 rfl rfl 3 (by decide) (hts _ q_31) (fun _ h9 => h9) rfl dX0_placeThoseReady_45 ?_
  refine lv_aload_n hx hb dX0_placeThoseReady_48 rfl (lv_at hl 0 rfl) ?_
  have hM97 := k281_add l hl9 dC dI z h2 h8 h4 h12 h5 h6 h7 H94.size kc1
  obtain ⟨hF95, hC98⟩ := pc_M hM97 hP hD hK hS hX hT hA [10, 3, 12] [1] rfl rfl rfl
  refine va_calli (va_runV (As := [.ref h8]) (rest := []) ⟨hx, hb, hml, hown, hts⟩ hM97 (cwV 1 hts (gV q_127 q_128 q_129 q_12 q_126) rfl rfl rfl hV_Jx4a65c_add_9ea2d ⟨Nat.le_of_ble_eq_true rfl, Nat.le_of_ble_eq_true rfl⟩) ⟨pc_blind, va_recv hK hP (ci := 0) (q := (RJx4a65c, TJx4a65c, 3)) (q0 := 10) rfl rfl, fun U hU hW => ⟨rfl, hC98 U hU hW⟩⟩ rfl rfl hl.1 rfl (lv_room (Nat.le_of_ble_eq_true rfl)) dX0_placeThoseReady_49 ⟨(Nat.le_of_ble_eq_true rfl), (Nat.le_of_ble_eq_true rfl)⟩) hS (fun q9 _ h9 => hF95 q9 h9) hF95 (fun r100 u99 t99 H99 L99 ht99 hvm99 hw99 hB99 hz99 hk99 hS => ?_)
  obtain ⟨hP, hD, hK⟩ := pq_jn (wz := [(h0, ce7 h1 o0 o1 h2), (h1, ce147 h3), (h3, ce146 kc0 h5 h6 h7 h8), (h9, ce3 z.1), (h10, ce3 z.1), (h11, ce3 z.1), (h12, ce3 z.1), (h5, ce38 (z.2.1 0) h9 h5), (h6, ce77 (z.2.1 0) h10 h6), (h7, ce115 (z.2.1 0) h11 h7), (h2, ce167 h4), (h8, ce165 (z.2.1 0) h12 h8), (h4, ce146 kc1 h5 h6 h7 h8)]) (tz := [(kc0, .object "java/lang/Object"), (kc1, .object "java/lang/Object")]) hP hD hK [10, 3, 12] [0] rfl hk99 hF95 hB99.1 ht99 hvm99 rfl rfl
  have hG : s.heap.size + 0 ≤ H99.size := Nat.le_trans hG hz99
  refine W.eq (g2 := F0 m 52 ls [.int 1]) (by rw [hw99]) ?_
  refine lv_pop hx hb dX0_placeThoseReady_52 rfl ?_
  refine lv_iinc (v := 4) (lv' := [(1, .int 4), (2, .ref h8), (0, .ref h0)]) hx hb dX0_placeThoseReady_53 hl (k := 1) rfl (by decide) (by decide) rfl (fun ls hl => ?_)
  refine lv_goto (tgt := 2) hx hb dX0_placeThoseReady_56 (by decide) ?_
  refine lv_iload_n hx hb dX0_placeThoseReady_2 rfl (lv_at hl 0 rfl) ?_
  refine lv_aload_n hx hb dX0_placeThoseReady_3 rfl (lv_at hl 2 rfl) ?_
  refine va_get (D := (dC, dI)) (ci := 2) (v := .ref h1) (C := RX0) (T := TX0) (N := 4) hx hb hts in_X0 hown hK hP 0 rfl rfl 0 (by decide) (hts _ q_28) (fun _ h9 => h9) rfl dX0_placeThoseReady_4 ?_
  have hM103 := k20_size l hl9 dC dI z h1 h3 H99.size 4 4
  obtain ⟨hF101, hC104⟩ := pc_M hM103 hP hD hK hS hX hT hA [1] [] rfl rfl rfl
  refine va_calli (va_runV (As := []) (rest := [.int 4]) ⟨hx, hb, hml, hown, hts⟩ hM103 (cwV 0 hts (gV q_92 q_77 q_78 q_12 q_75) rfl rfl rfl hV_Jx4a65c_size_8abf5 ⟨Nat.le_of_ble_eq_true rfl, Nat.le_of_ble_eq_true rfl⟩) ⟨pc_blind, va_recv hK hP (ci := 0) (q := (RJx4a65c, TJx4a65c, 3)) (q0 := 1) rfl rfl, fun U hU hW => ⟨rfl, hC104 U hU hW⟩⟩ rfl rfl hl.1 rfl (lv_room (Nat.le_of_ble_eq_true rfl)) dX0_placeThoseReady_7 ⟨(Nat.le_of_ble_eq_true rfl), (Nat.le_of_ble_eq_true rfl)⟩) hS (fun q9 _ h9 => hF101 q9 h9) hF101 (fun r106 u105 t105 H105 L105 ht105 hvm105 hw105 hB105 hz105 hk105 hS => ?_)
  have hP := pq_keep hP hD [1] rfl hk105 hB105.1 ht105
  have hG : s.heap.size + 0 ≤ H105.size := Nat.le_trans hG hz105
  refine W.eq (g2 := F0 m 10 ls [.int 4, .int 4]) (by rw [hw105]) ?_
  refine lv_icmp_ge (tgt := 59) hx hb dX0_placeThoseReady_10 (by decide) (fun _ => ?_) (fun cz => absurd (by decide) cz)
  exact W.vret hx hb hr (fun t9 ht9 hW9 => ⟨⟨(), rfl, trivial, ⟨pq_mk2 hP hD hK [0, 1, 10, 2, 12, 7, 8, 9, 11, 3, 4, 5, 6] [0, 1] rfl rfl rfl ht9 hW9, by rw [ht9]; exact Nat.le_trans (Nat.add_le_add_left (Nat.le_of_ble_eq_true rfl) _) hG⟩⟩, hS.F ht9⟩) hS.2.2 dX0_placeThoseReady_59

set_option maxHeartbeats 4000000 in
set_option maxRecDepth 100000 in
theorem k283_putInOrder (l : Launch) (hl9 : l.stackTraces = false) (dC : Nat → ClassId) (dI : Nat → Nat → Nat) (z : XZ) (h0 h1 h2 h3 h4 h5 h6 h7 h8 h9 h10 h11 h12 : Nat) (o0 o1 : Nat) (sz : Nat) (kc0 kc1 : ClassId) : Met l yX0_putInOrder (.code yX0_putInOrder cX0_putInOrder 2 none :: wsL_law) ({ frames := 4, cells := 0, slots := 0, locals := 86 }) (va_Pc [.ref h0] (PC (dC, dI) [(h0, ce7 h1 o0 o1 h2), (h1, ce147 h3), (h2, ce117 h4), (h3, ce146 kc0 h5 h6 h7 h8), (h4, ce101 kc1 h5 h6 h7), (h5, ce38 (z.2.1 0) h9 h5), (h6, ce77 (z.2.1 0) h10 h6), (h7, ce115 (z.2.1 0) h11 h7), (h8, ce144 (z.2.1 0) h12 h8), (h9, ce3 z.1), (h10, ce3 z.1), (h11, ce3 z.1), (h12, ce3 z.1)] [(kc0, .object "java/lang/Object"), (kc1, .object "java/lang/Object")] sz z)) (va_Qv (fun (_ : Unit) => True) (fun (_ : Unit) (t : State) => PG (dC, dI) [(h0, ce7 h1 o0 o1 h2), (h1, ce147 h3), (h2, ce167 h4), (h3, ce146 kc0 h5 h6 h7 h8), (h4, ce146 kc1 h5 h6 h7 h8), (h5, ce38 (z.2.1 0) h9 h5), (h6, ce77 (z.2.1 0) h10 h6), (h7, ce115 (z.2.1 0) h11 h7), (h8, ce165 (z.2.1 0) h12 h8), (h9, ce3 z.1), (h10, ce3 z.1), (h11, ce3 z.1), (h12, ce3 z.1)] [(kc0, .object "java/lang/Object"), (kc1, .object "java/lang/Object")] (va_A [(h0, ce7 h1 o0 o1 h2), (h1, ce147 h3), (h2, ce117 h4), (h3, ce146 kc0 h5 h6 h7 h8), (h4, ce101 kc1 h5 h6 h7), (h5, ce38 (z.2.1 0) h9 h5), (h6, ce77 (z.2.1 0) h10 h6), (h7, ce115 (z.2.1 0) h11 h7), (h8, ce144 (z.2.1 0) h12 h8), (h9, ce3 z.1), (h10, ce3 z.1), (h11, ce3 z.1), (h12, ce3 z.1)] sz) sz 0 t) (va_A [(h0, ce7 h1 o0 o1 h2), (h1, ce147 h3), (h2, ce117 h4), (h3, ce146 kc0 h5 h6 h7 h8), (h4, ce101 kc1 h5 h6 h7), (h5, ce38 (z.2.1 0) h9 h5), (h6, ce77 (z.2.1 0) h10 h6), (h7, ce115 (z.2.1 0) h11 h7), (h8, ce144 (z.2.1 0) h12 h8), (h9, ce3 z.1), (h10, ce3 z.1), (h11, ce3 z.1), (h12, ce3 z.1)] sz)) 0 0 (va_A [(h0, ce7 h1 o0 o1 h2), (h1, ce147 h3), (h2, ce117 h4), (h3, ce146 kc0 h5 h6 h7 h8), (h4, ce101 kc1 h5 h6 h7), (h5, ce38 (z.2.1 0) h9 h5), (h6, ce77 (z.2.1 0) h10 h6), (h7, ce115 (z.2.1 0) h11 h7), (h8, ce144 (z.2.1 0) h12 h8), (h9, ce3 z.1), (h10, ce3 z.1), (h11, ce3 z.1), (h12, ce3 z.1)] sz) := by
  refine Met.ofW (cc := cX0_putInOrder) (maxL := 2) (ret := none) (by decide) rfl ?_
  intro p e s m args below meth c s₁ B hml hv
  obtain ⟨rfl, hsz, hP, hK, hD0, hX, hT⟩ := hv
  have hx := B.exec
  have hb := B.bytes
  have hr := B.returns
  have hts0 := atoms_spec (ws := .code yX0_putInOrder cX0_putInOrder 2 none :: wsL_law) B.pre
  have hts := xTail hts0
  have hown : s.vm.findClass RX0 = some m.cls := xown B.named rfl
  have hlocks := B.notSynchronized
  subst hsz
  have hD := hD0.self (sz := s.heap.size)
  generalize hAe : va_A [(h0, ce7 h1 o0 o1 h2), (h1, ce147 h3), (h2, ce117 h4), (h3, ce146 kc0 h5 h6 h7 h8), (h4, ce101 kc1 h5 h6 h7), (h5, ce38 (z.2.1 0) h9 h5), (h6, ce77 (z.2.1 0) h10 h6), (h7, ce115 (z.2.1 0) h11 h7), (h8, ce144 (z.2.1 0) h12 h8), (h9, ce3 z.1), (h10, ce3 z.1), (h11, ce3 z.1), (h12, ce3 z.1)] s.heap.size = A at hD hX ⊢
  have hA : ∀ q : Nat, s.heap.size ≤ q → A q := fun q h => by rw [← hAe]; exact Or.inr h
  have hS : va_S A s.heap s.heap [] := va_S.rf
  have hG : s.heap.size + 0 ≤ s.heap.size := Nat.le_refl _
  have hl := lv_entry ([.ref h0]) (n := 2) (Nat.le_of_ble_eq_true rfl)
  rw [lg_entry_eq]
  generalize (lg_sl ([.ref h0]) ++ List.replicate (2 - (lg_sl ([.ref h0])).length) Slot.unset).toArray = ls at hl ⊢
  have hl : lv_has ls 2 [(0, .ref h0)] := hl
  refine lv_aload_n hx hb dX0_putInOrder_0 rfl (lv_at hl 0 rfl) ?_
  refine va_get (D := (dC, dI)) (ci := 2) (v := .ref h2) (C := RX0) (T := TX0) (N := 4) hx hb hts in_X0 hown hK hP 0 rfl rfl 3 (by decide) (hts _ q_31) (fun _ h9 => h9) rfl dX0_putInOrder_1 ?_
  have hM3 := k256_clear l hl9 dC dI z h2 h4 h5 h6 h7 s.heap.size kc1
  obtain ⟨hF1, hC4⟩ := pc_M hM3 hP hD hK hS hX hT hA [2, 4] [1] rfl rfl rfl
  refine va_callv (va_runV (As := []) (rest := []) ⟨hx, hb, hml, hown, hts⟩ hM3 (cwV 0 hts (gV q_140 q_141 q_142 q_12 q_139) rfl rfl rfl hV_Jx4a65c_clear_da8c8 ⟨Nat.le_of_ble_eq_true rfl, Nat.le_of_ble_eq_true rfl⟩) ⟨pc_blind, va_recv hK hP (ci := 0) (q := (RJx4a65c, TJx4a65c, 3)) (q0 := 2) rfl rfl, fun U hU hW => ⟨rfl, hC4 U hU hW⟩⟩ rfl rfl hl.1 rfl (lv_room (Nat.le_of_ble_eq_true rfl)) dX0_putInOrder_4 ⟨(Nat.le_of_ble_eq_true rfl), (Nat.le_of_ble_eq_true rfl)⟩) hS (fun q9 _ h9 => hF1 q9 h9) hF1 (fun u5 t5 H5 L5 ht5 hvm5 hw5 hB5 hz5 hk5 hS => ?_)
  obtain ⟨hP, hD, hK⟩ := pq_jn (wz := [(h0, ce7 h1 o0 o1 h2), (h1, ce147 h3), (h3, ce146 kc0 h5 h6 h7 h8), (h5, ce38 (z.2.1 0) h9 h5), (h6, ce77 (z.2.1 0) h10 h6), (h7, ce115 (z.2.1 0) h11 h7), (h8, ce144 (z.2.1 0) h12 h8), (h9, ce3 z.1), (h10, ce3 z.1), (h11, ce3 z.1), (h12, ce3 z.1), (h2, ce149 h4), (h4, ce153 kc1)]) (tz := [(kc0, .object "java/lang/Object"), (kc1, .object "java/lang/Object")]) hP hD hK [2, 4] [0] rfl hk5 hF1 hB5.1 ht5 hvm5 rfl rfl
  have hG : s.heap.size + 0 ≤ H5.size := Nat.le_trans hG hz5
  refine lv_iconst (v := 0) hx hb dX0_putInOrder_7 (by decide) ?_
  refine lv_istore_n (lv' := [(1, .int 0), (0, .ref h0)]) hx hb dX0_putInOrder_8 rfl hl (by decide) rfl (fun ls hl => ?_)
  refine lv_iload_n hx hb dX0_putInOrder_9 rfl (lv_at hl 0 rfl) ?_
  refine lv_aload_n hx hb dX0_putInOrder_10 rfl (lv_at hl 1 rfl) ?_
  refine va_get (D := (dC, dI)) (ci := 2) (v := .ref h1) (C := RX0) (T := TX0) (N := 4) hx hb hts in_X0 hown hK hP 0 rfl rfl 0 (by decide) (hts _ q_28) (fun _ h9 => h9) rfl dX0_putInOrder_11 ?_
  have hM9 := k20_size l hl9 dC dI z h1 h3 H5.size 4 4
  obtain ⟨hF7, hC10⟩ := pc_M hM9 hP hD hK hS hX hT hA [1] [] rfl rfl rfl
  refine va_calli (va_runV (As := []) (rest := [.int 0]) ⟨hx, hb, hml, hown, hts⟩ hM9 (cwV 0 hts (gV q_92 q_77 q_78 q_12 q_75) rfl rfl rfl hV_Jx4a65c_size_8abf5 ⟨Nat.le_of_ble_eq_true rfl, Nat.le_of_ble_eq_true rfl⟩) ⟨pc_blind, va_recv hK hP (ci := 0) (q := (RJx4a65c, TJx4a65c, 3)) (q0 := 1) rfl rfl, fun U hU hW => ⟨rfl, hC10 U hU hW⟩⟩ rfl rfl hl.1 rfl (lv_room (Nat.le_of_ble_eq_true rfl)) dX0_putInOrder_14 ⟨(Nat.le_of_ble_eq_true rfl), (Nat.le_of_ble_eq_true rfl)⟩) hS (fun q9 _ h9 => hF7 q9 h9) hF7 (fun r12 u11 t11 H11 L11 ht11 hvm11 hw11 hB11 hz11 hk11 hS => ?_)
  have hP := pq_keep hP hD [1] rfl hk11 hB11.1 ht11
  have hG : s.heap.size + 0 ≤ H11.size := Nat.le_trans hG hz11
  refine W.eq (g2 := F0 m 17 ls [.int 4, .int 0]) (by rw [hw11]) ?_
  refine lv_icmp_ge (tgt := 41) hx hb dX0_putInOrder_17 (by decide) (fun cz => absurd cz (by decide)) (fun _ => ?_)
  refine lv_aload_n hx hb dX0_putInOrder_20 rfl (lv_at hl 1 rfl) ?_
  refine va_get (D := (dC, dI)) (ci := 2) (v := .ref h1) (C := RX0) (T := TX0) (N := 4) hx hb hts in_X0 hown hK hP 0 rfl rfl 0 (by decide) (hts _ q_28) (fun _ h9 => h9) rfl dX0_putInOrder_21 ?_
  refine lv_iload_n hx hb dX0_putInOrder_24 rfl (lv_at hl 0 rfl) ?_
  have hM15 := k260_get l hl9 dC dI z h1 h3 h5 h6 h7 h8 H11.size kc0
  obtain ⟨hF13, hC16⟩ := pc_M hM15 hP hD hK hS hX hT hA [1, 2] [0] rfl rfl rfl
  refine va_callr (va_runV (As := [.int 0]) (rest := []) ⟨hx, hb, hml, hown, hts⟩ hM15 (cwV 1 hts (gV q_156 q_157 q_158 q_12 q_155) rfl rfl rfl hV_Jx4a65c_get_915e3 ⟨Nat.le_of_ble_eq_true rfl, Nat.le_of_ble_eq_true rfl⟩) ⟨pc_blind, va_recv hK hP (ci := 0) (q := (RJx4a65c, TJx4a65c, 3)) (q0 := 1) rfl rfl, fun U hU hW => ⟨rfl, hC16 U hU hW⟩⟩ rfl rfl hl.1 rfl (lv_room (Nat.le_of_ble_eq_true rfl)) dX0_putInOrder_25 ⟨(Nat.le_of_ble_eq_true rfl), (Nat.le_of_ble_eq_true rfl)⟩) hS (fun q9 _ h9 => hF13 q9 h9) hF13 (fun u17 r18 t17 H17 L17 ht17 hvm17 hw17 hB17 hz17 hk17 hS => ?_)
  obtain ⟨hr17, hB17⟩ := hB17
  have hP := pq_keep hP hD [1, 2] rfl hk17 hB17.1 ht17
  have hG : s.heap.size + 0 ≤ H17.size := Nat.le_trans hG hz17
  refine W.eq (g2 := F0 m 28 ls [.ref h5]) (by rw [hr17]) ?_
  refine va_castE (nm := RX2) hx hb hown (hts _ q_89) (va_recv hK hP (ci := 3) (q := (RX2, TX2, 19)) (q0 := 3) rfl rfl) dX0_putInOrder_28 ?_
  refine lv_iconst (v := 0) hx hb dX0_putInOrder_31 (by decide) ?_
  refine va_put (D := (dC, dI)) (ci := 3) (v := .int 0) (ty := .boolean) (C := RX2) (T := TX2) (N := 19) hx hb hts in_X2 tyX2 tyX2_ok nmX2 hown hK hP hD (va_Sre hS) 3 rfl rfl 17 (by decide) (hts _ q_159) (fun _ h9 => h9) rfl (by decide +kernel) rfl rfl (Nat.le_of_ble_eq_true rfl) dX0_putInOrder_32 (fun H19 _ hP hD hS' => ?_)
  have hG : s.heap.size + 0 ≤ H19.size := Nat.le_trans hG hS'.1
  have hS := va_Str hS hS'
  have hP : va_P (dC, dI) xCl [(h0, ce7 h1 o0 o1 h2), (h1, ce147 h3), (h3, ce146 kc0 h5 h6 h7 h8), (h5, ce32 (z.2.1 0) h9 h5), (h6, ce77 (z.2.1 0) h10 h6), (h7, ce115 (z.2.1 0) h11 h7), (h8, ce144 (z.2.1 0) h12 h8), (h9, ce3 z.1), (h10, ce3 z.1), (h11, ce3 z.1), (h12, ce3 z.1), (h2, ce149 h4), (h4, ce153 kc1)] H19 := hP
  have hD := vd_as hP hD rfl
  refine lv_iinc (v := 1) (lv' := [(1, .int 1), (0, .ref h0)]) hx hb dX0_putInOrder_35 hl (k := 0) rfl (by decide) (by decide) rfl (fun ls hl => ?_)
  refine lv_goto (tgt := 9) hx hb dX0_putInOrder_38 (by decide) ?_
  refine lv_iload_n hx hb dX0_putInOrder_9 rfl (lv_at hl 0 rfl) ?_
  refine lv_aload_n hx hb dX0_putInOrder_10 rfl (lv_at hl 1 rfl) ?_
  refine va_get (D := (dC, dI)) (ci := 2) (v := .ref h1) (C := RX0) (T := TX0) (N := 4) hx hb hts in_X0 hown hK hP 0 rfl rfl 0 (by decide) (hts _ q_28) (fun _ h9 => h9) rfl dX0_putInOrder_11 ?_
  have hM22 := k20_size l hl9 dC dI z h1 h3 H19.size 4 4
  obtain ⟨hF20, hC23⟩ := pc_M hM22 hP hD hK hS hX hT hA [1] [] rfl rfl rfl
  refine va_calli (va_runV (As := []) (rest := [.int 1]) ⟨hx, hb, hml, hown, hts⟩ hM22 (cwV 0 hts (gV q_92 q_77 q_78 q_12 q_75) rfl rfl rfl hV_Jx4a65c_size_8abf5 ⟨Nat.le_of_ble_eq_true rfl, Nat.le_of_ble_eq_true rfl⟩) ⟨pc_blind, va_recv hK hP (ci := 0) (q := (RJx4a65c, TJx4a65c, 3)) (q0 := 1) rfl rfl, fun U hU hW => ⟨rfl, hC23 U hU hW⟩⟩ rfl rfl hl.1 rfl (lv_room (Nat.le_of_ble_eq_true rfl)) dX0_putInOrder_14 ⟨(Nat.le_of_ble_eq_true rfl), (Nat.le_of_ble_eq_true rfl)⟩) hS (fun q9 _ h9 => hF20 q9 h9) hF20 (fun r25 u24 t24 H24 L24 ht24 hvm24 hw24 hB24 hz24 hk24 hS => ?_)
  have hP := pq_keep hP hD [1] rfl hk24 hB24.1 ht24
  have hG : s.heap.size + 0 ≤ H24.size := Nat.le_trans hG hz24
  refine W.eq (g2 := F0 m 17 ls [.int 4, .int 1]) (by rw [hw24]) ?_
  refine lv_icmp_ge (tgt := 41) hx hb dX0_putInOrder_17 (by decide) (fun cz => absurd cz (by decide)) (fun _ => ?_)
  refine lv_aload_n hx hb dX0_putInOrder_20 rfl (lv_at hl 1 rfl) ?_
  refine va_get (D := (dC, dI)) (ci := 2) (v := .ref h1) (C := RX0) (T := TX0) (N := 4) hx hb hts in_X0 hown hK hP 0 rfl rfl 0 (by decide) (hts _ q_28) (fun _ h9 => h9) rfl dX0_putInOrder_21 ?_
  refine lv_iload_n hx hb dX0_putInOrder_24 rfl (lv_at hl 0 rfl) ?_
  have hM28 := k264_get l hl9 dC dI z h1 h3 h5 h6 h7 h8 H24.size kc0
  obtain ⟨hF26, hC29⟩ := pc_M hM28 hP hD hK hS hX hT hA [1, 2] [0] rfl rfl rfl
  refine va_callr (va_runV (As := [.int 1]) (rest := []) ⟨hx, hb, hml, hown, hts⟩ hM28 (cwV 1 hts (gV q_156 q_157 q_158 q_12 q_155) rfl rfl rfl hV_Jx4a65c_get_915e3 ⟨Nat.le_of_ble_eq_true rfl, Nat.le_of_ble_eq_true rfl⟩) ⟨pc_blind, va_recv hK hP (ci := 0) (q := (RJx4a65c, TJx4a65c, 3)) (q0 := 1) rfl rfl, fun U hU hW => ⟨rfl, hC29 U hU hW⟩⟩ rfl rfl hl.1 rfl (lv_room (Nat.le_of_ble_eq_true rfl)) dX0_putInOrder_25 ⟨(Nat.le_of_ble_eq_true rfl), (Nat.le_of_ble_eq_true rfl)⟩) hS (fun q9 _ h9 => hF26 q9 h9) hF26 (fun u30 r31 t30 H30 L30 ht30 hvm30 hw30 hB30 hz30 hk30 hS => ?_)
  obtain ⟨hr30, hB30⟩ := hB30
  have hP := pq_keep hP hD [1, 2] rfl hk30 hB30.1 ht30
  have hG : s.heap.size + 0 ≤ H30.size := Nat.le_trans hG hz30
  refine W.eq (g2 := F0 m 28 ls [.ref h6]) (by rw [hr30]) ?_
  refine va_castE (nm := RX2) hx hb hown (hts _ q_89) (va_recv hK hP (ci := 3) (q := (RX2, TX2, 19)) (q0 := 4) rfl rfl) dX0_putInOrder_28 ?_
  refine lv_iconst (v := 0) hx hb dX0_putInOrder_31 (by decide) ?_
  refine va_put (D := (dC, dI)) (ci := 3) (v := .int 0) (ty := .boolean) (C := RX2) (T := TX2) (N := 19) hx hb hts in_X2 tyX2 tyX2_ok nmX2 hown hK hP hD (va_Sre hS) 4 rfl rfl 17 (by decide) (hts _ q_159) (fun _ h9 => h9) rfl (by decide +kernel) rfl rfl (Nat.le_of_ble_eq_true rfl) dX0_putInOrder_32 (fun H32 _ hP hD hS' => ?_)
  have hG : s.heap.size + 0 ≤ H32.size := Nat.le_trans hG hS'.1
  have hS := va_Str hS hS'
  have hP : va_P (dC, dI) xCl [(h0, ce7 h1 o0 o1 h2), (h1, ce147 h3), (h3, ce146 kc0 h5 h6 h7 h8), (h5, ce32 (z.2.1 0) h9 h5), (h6, ce67 (z.2.1 0) h10 h6), (h7, ce115 (z.2.1 0) h11 h7), (h8, ce144 (z.2.1 0) h12 h8), (h9, ce3 z.1), (h10, ce3 z.1), (h11, ce3 z.1), (h12, ce3 z.1), (h2, ce149 h4), (h4, ce153 kc1)] H32 := hP
  have hD := vd_as hP hD rfl
  refine lv_iinc (v := 2) (lv' := [(1, .int 2), (0, .ref h0)]) hx hb dX0_putInOrder_35 hl (k := 0) rfl (by decide) (by decide) rfl (fun ls hl => ?_)
  refine lv_goto (tgt := 9) hx hb dX0_putInOrder_38 (by decide) ?_
  refine lv_iload_n hx hb dX0_putInOrder_9 rfl (lv_at hl 0 rfl) ?_
  refine lv_aload_n hx hb dX0_putInOrder_10 rfl (lv_at hl 1 rfl) ?_
  refine va_get (D := (dC, dI)) (ci := 2) (v := .ref h1) (C := RX0) (T := TX0) (N := 4) hx hb hts in_X0 hown hK hP 0 rfl rfl 0 (by decide) (hts _ q_28) (fun _ h9 => h9) rfl dX0_putInOrder_11 ?_
  have hM35 := k20_size l hl9 dC dI z h1 h3 H32.size 4 4
  obtain ⟨hF33, hC36⟩ := pc_M hM35 hP hD hK hS hX hT hA [1] [] rfl rfl rfl
  refine va_calli (va_runV (As := []) (rest := [.int 2]) ⟨hx, hb, hml, hown, hts⟩ hM35 (cwV 0 hts (gV q_92 q_77 q_78 q_12 q_75) rfl rfl rfl hV_Jx4a65c_size_8abf5 ⟨Nat.le_of_ble_eq_true rfl, Nat.le_of_ble_eq_true rfl⟩) ⟨pc_blind, va_recv hK hP (ci := 0) (q := (RJx4a65c, TJx4a65c, 3)) (q0 := 1) rfl rfl, fun U hU hW => ⟨rfl, hC36 U hU hW⟩⟩ rfl rfl hl.1 rfl (lv_room (Nat.le_of_ble_eq_true rfl)) dX0_putInOrder_14 ⟨(Nat.le_of_ble_eq_true rfl), (Nat.le_of_ble_eq_true rfl)⟩) hS (fun q9 _ h9 => hF33 q9 h9) hF33 (fun r38 u37 t37 H37 L37 ht37 hvm37 hw37 hB37 hz37 hk37 hS => ?_)
  have hP := pq_keep hP hD [1] rfl hk37 hB37.1 ht37
  have hG : s.heap.size + 0 ≤ H37.size := Nat.le_trans hG hz37
  refine W.eq (g2 := F0 m 17 ls [.int 4, .int 2]) (by rw [hw37]) ?_
  refine lv_icmp_ge (tgt := 41) hx hb dX0_putInOrder_17 (by decide) (fun cz => absurd cz (by decide)) (fun _ => ?_)
  refine lv_aload_n hx hb dX0_putInOrder_20 rfl (lv_at hl 1 rfl) ?_
  refine va_get (D := (dC, dI)) (ci := 2) (v := .ref h1) (C := RX0) (T := TX0) (N := 4) hx hb hts in_X0 hown hK hP 0 rfl rfl 0 (by decide) (hts _ q_28) (fun _ h9 => h9) rfl dX0_putInOrder_21 ?_
  refine lv_iload_n hx hb dX0_putInOrder_24 rfl (lv_at hl 0 rfl) ?_
  have hM41 := k268_get l hl9 dC dI z h1 h3 h5 h6 h7 h8 H37.size kc0
  obtain ⟨hF39, hC42⟩ := pc_M hM41 hP hD hK hS hX hT hA [1, 2] [0] rfl rfl rfl
  refine va_callr (va_runV (As := [.int 2]) (rest := []) ⟨hx, hb, hml, hown, hts⟩ hM41 (cwV 1 hts (gV q_156 q_157 q_158 q_12 q_155) rfl rfl rfl hV_Jx4a65c_get_915e3 ⟨Nat.le_of_ble_eq_true rfl, Nat.le_of_ble_eq_true rfl⟩) ⟨pc_blind, va_recv hK hP (ci := 0) (q := (RJx4a65c, TJx4a65c, 3)) (q0 := 1) rfl rfl, fun U hU hW => ⟨rfl, hC42 U hU hW⟩⟩ rfl rfl hl.1 rfl (lv_room (Nat.le_of_ble_eq_true rfl)) dX0_putInOrder_25 ⟨(Nat.le_of_ble_eq_true rfl), (Nat.le_of_ble_eq_true rfl)⟩) hS (fun q9 _ h9 => hF39 q9 h9) hF39 (fun u43 r44 t43 H43 L43 ht43 hvm43 hw43 hB43 hz43 hk43 hS => ?_)
  obtain ⟨hr43, hB43⟩ := hB43
  have hP := pq_keep hP hD [1, 2] rfl hk43 hB43.1 ht43
  have hG : s.heap.size + 0 ≤ H43.size := Nat.le_trans hG hz43
  refine W.eq (g2 := F0 m 28 ls [.ref h7]) (by rw [hr43]) ?_
  refine va_castE (nm := RX2) hx hb hown (hts _ q_89) (va_recv hK hP (ci := 3) (q := (RX2, TX2, 19)) (q0 := 5) rfl rfl) dX0_putInOrder_28 ?_
  refine lv_iconst (v := 0) hx hb dX0_putInOrder_31 (by decide) ?_
  refine va_put (D := (dC, dI)) (ci := 3) (v := .int 0) (ty := .boolean) (C := RX2) (T := TX2) (N := 19) hx hb hts in_X2 tyX2 tyX2_ok nmX2 hown hK hP hD (va_Sre hS) 5 rfl rfl 17 (by decide) (hts _ q_159) (fun _ h9 => h9) rfl (by decide +kernel) rfl rfl (Nat.le_of_ble_eq_true rfl) dX0_putInOrder_32 (fun H45 _ hP hD hS' => ?_)
  have hG : s.heap.size + 0 ≤ H45.size := Nat.le_trans hG hS'.1
  have hS := va_Str hS hS'
  have hP : va_P (dC, dI) xCl [(h0, ce7 h1 o0 o1 h2), (h1, ce147 h3), (h3, ce146 kc0 h5 h6 h7 h8), (h5, ce32 (z.2.1 0) h9 h5), (h6, ce67 (z.2.1 0) h10 h6), (h7, ce99 (z.2.1 0) h11 h7), (h8, ce144 (z.2.1 0) h12 h8), (h9, ce3 z.1), (h10, ce3 z.1), (h11, ce3 z.1), (h12, ce3 z.1), (h2, ce149 h4), (h4, ce153 kc1)] H45 := hP
  have hD := vd_as hP hD rfl
  refine lv_iinc (v := 3) (lv' := [(1, .int 3), (0, .ref h0)]) hx hb dX0_putInOrder_35 hl (k := 0) rfl (by decide) (by decide) rfl (fun ls hl => ?_)
  refine lv_goto (tgt := 9) hx hb dX0_putInOrder_38 (by decide) ?_
  refine lv_iload_n hx hb dX0_putInOrder_9 rfl (lv_at hl 0 rfl) ?_
  refine lv_aload_n hx hb dX0_putInOrder_10 rfl (lv_at hl 1 rfl) ?_
  refine va_get (D := (dC, dI)) (ci := 2) (v := .ref h1) (C := RX0) (T := TX0) (N := 4) hx hb hts in_X0 hown hK hP 0 rfl rfl 0 (by decide) (hts _ q_28) (fun _ h9 => h9) rfl dX0_putInOrder_11 ?_
  have hM48 := k20_size l hl9 dC dI z h1 h3 H45.size 4 4
  obtain ⟨hF46, hC49⟩ := pc_M hM48 hP hD hK hS hX hT hA [1] [] rfl rfl rfl
  refine va_calli (va_runV (As := []) (rest := [.int 3]) ⟨hx, hb, hml, hown, hts⟩ hM48 (cwV 0 hts (gV q_92 q_77 q_78 q_12 q_75) rfl rfl rfl hV_Jx4a65c_size_8abf5 ⟨Nat.le_of_ble_eq_true rfl, Nat.le_of_ble_eq_true rfl⟩) ⟨pc_blind, va_recv hK hP (ci := 0) (q := (RJx4a65c, TJx4a65c, 3)) (q0 := 1) rfl rfl, fun U hU hW => ⟨rfl, hC49 U hU hW⟩⟩ rfl rfl hl.1 rfl (lv_room (Nat.le_of_ble_eq_true rfl)) dX0_putInOrder_14 ⟨(Nat.le_of_ble_eq_true rfl), (Nat.le_of_ble_eq_true rfl)⟩) hS (fun q9 _ h9 => hF46 q9 h9) hF46 (fun r51 u50 t50 H50 L50 ht50 hvm50 hw50 hB50 hz50 hk50 hS => ?_)
  have hP := pq_keep hP hD [1] rfl hk50 hB50.1 ht50
  have hG : s.heap.size + 0 ≤ H50.size := Nat.le_trans hG hz50
  refine W.eq (g2 := F0 m 17 ls [.int 4, .int 3]) (by rw [hw50]) ?_
  refine lv_icmp_ge (tgt := 41) hx hb dX0_putInOrder_17 (by decide) (fun cz => absurd cz (by decide)) (fun _ => ?_)
  refine lv_aload_n hx hb dX0_putInOrder_20 rfl (lv_at hl 1 rfl) ?_
  refine va_get (D := (dC, dI)) (ci := 2) (v := .ref h1) (C := RX0) (T := TX0) (N := 4) hx hb hts in_X0 hown hK hP 0 rfl rfl 0 (by decide) (hts _ q_28) (fun _ h9 => h9) rfl dX0_putInOrder_21 ?_
  refine lv_iload_n hx hb dX0_putInOrder_24 rfl (lv_at hl 0 rfl) ?_
  have hM54 := k272_get l hl9 dC dI z h1 h3 h5 h6 h7 h8 H50.size kc0
  obtain ⟨hF52, hC55⟩ := pc_M hM54 hP hD hK hS hX hT hA [1, 2] [0] rfl rfl rfl
  refine va_callr (va_runV (As := [.int 3]) (rest := []) ⟨hx, hb, hml, hown, hts⟩ hM54 (cwV 1 hts (gV q_156 q_157 q_158 q_12 q_155) rfl rfl rfl hV_Jx4a65c_get_915e3 ⟨Nat.le_of_ble_eq_true rfl, Nat.le_of_ble_eq_true rfl⟩) ⟨pc_blind, va_recv hK hP (ci := 0) (q := (RJx4a65c, TJx4a65c, 3)) (q0 := 1) rfl rfl, fun U hU hW => ⟨rfl, hC55 U hU hW⟩⟩ rfl rfl hl.1 rfl (lv_room (Nat.le_of_ble_eq_true rfl)) dX0_putInOrder_25 ⟨(Nat.le_of_ble_eq_true rfl), (Nat.le_of_ble_eq_true rfl)⟩) hS (fun q9 _ h9 => hF52 q9 h9) hF52 (fun u56 r57 t56 H56 L56 ht56 hvm56 hw56 hB56 hz56 hk56 hS => ?_)
  obtain ⟨hr56, hB56⟩ := hB56
  have hP := pq_keep hP hD [1, 2] rfl hk56 hB56.1 ht56
  have hG : s.heap.size + 0 ≤ H56.size := Nat.le_trans hG hz56
  refine W.eq (g2 := F0 m 28 ls [.ref h8]) (by rw [hr56]) ?_
  refine va_castE (nm := RX2) hx hb hown (hts _ q_89) (va_recv hK hP (ci := 3) (q := (RX2, TX2, 19)) (q0 := 6) rfl rfl) dX0_putInOrder_28 ?_
  refine lv_iconst (v := 0) hx hb dX0_putInOrder_31 (by decide) ?_
  refine va_put (D := (dC, dI)) (ci := 3) (v := .int 0) (ty := .boolean) (C := RX2) (T := TX2) (N := 19) hx hb hts in_X2 tyX2 tyX2_ok nmX2 hown hK hP hD (va_Sre hS) 6 rfl rfl 17 (by decide) (hts _ q_159) (fun _ h9 => h9) rfl (by decide +kernel) rfl rfl (Nat.le_of_ble_eq_true rfl) dX0_putInOrder_32 (fun H58 _ hP hD hS' => ?_)
  have hG : s.heap.size + 0 ≤ H58.size := Nat.le_trans hG hS'.1
  have hS := va_Str hS hS'
  have hP : va_P (dC, dI) xCl [(h0, ce7 h1 o0 o1 h2), (h1, ce147 h3), (h3, ce146 kc0 h5 h6 h7 h8), (h5, ce32 (z.2.1 0) h9 h5), (h6, ce67 (z.2.1 0) h10 h6), (h7, ce99 (z.2.1 0) h11 h7), (h8, ce144 (z.2.1 0) h12 h8), (h9, ce3 z.1), (h10, ce3 z.1), (h11, ce3 z.1), (h12, ce3 z.1), (h2, ce149 h4), (h4, ce153 kc1)] H58 := hP
  have hD := vd_as hP hD rfl
  refine lv_iinc (v := 4) (lv' := [(1, .int 4), (0, .ref h0)]) hx hb dX0_putInOrder_35 hl (k := 0) rfl (by decide) (by decide) rfl (fun ls hl => ?_)
  refine lv_goto (tgt := 9) hx hb dX0_putInOrder_38 (by decide) ?_
  refine lv_iload_n hx hb dX0_putInOrder_9 rfl (lv_at hl 0 rfl) ?_
  refine lv_aload_n hx hb dX0_putInOrder_10 rfl (lv_at hl 1 rfl) ?_
  refine va_get (D := (dC, dI)) (ci := 2) (v := .ref h1) (C := RX0) (T := TX0) (N := 4) hx hb hts in_X0 hown hK hP 0 rfl rfl 0 (by decide) (hts _ q_28) (fun _ h9 => h9) rfl dX0_putInOrder_11 ?_
  have hM61 := k20_size l hl9 dC dI z h1 h3 H58.size 4 4
  obtain ⟨hF59, hC62⟩ := pc_M hM61 hP hD hK hS hX hT hA [1] [] rfl rfl rfl
  refine va_calli (va_runV (As := []) (rest := [.int 4]) ⟨hx, hb, hml, hown, hts⟩ hM61 (cwV 0 hts (gV q_92 q_77 q_78 q_12 q_75) rfl rfl rfl hV_Jx4a65c_size_8abf5 ⟨Nat.le_of_ble_eq_true rfl, Nat.le_of_ble_eq_true rfl⟩) ⟨pc_blind, va_recv hK hP (ci := 0) (q := (RJx4a65c, TJx4a65c, 3)) (q0 := 1) rfl rfl, fun U hU hW => ⟨rfl, hC62 U hU hW⟩⟩ rfl rfl hl.1 rfl (lv_room (Nat.le_of_ble_eq_true rfl)) dX0_putInOrder_14 ⟨(Nat.le_of_ble_eq_true rfl), (Nat.le_of_ble_eq_true rfl)⟩) hS (fun q9 _ h9 => hF59 q9 h9) hF59 (fun r64 u63 t63 H63 L63 ht63 hvm63 hw63 hB63 hz63 hk63 hS => ?_)
  have hP := pq_keep hP hD [1] rfl hk63 hB63.1 ht63
  have hG : s.heap.size + 0 ≤ H63.size := Nat.le_trans hG hz63
  refine W.eq (g2 := F0 m 17 ls [.int 4, .int 4]) (by rw [hw63]) ?_
  refine lv_icmp_ge (tgt := 41) hx hb dX0_putInOrder_17 (by decide) (fun _ => ?_) (fun cz => absurd (by decide) cz)
  refine lv_iconst (v := 0) hx hb dX0_putInOrder_41 (by decide) ?_
  refine lv_istore_n (lv' := [(1, .int 0), (0, .ref h0)]) hx hb dX0_putInOrder_42 rfl hl (by decide) rfl (fun ls hl => ?_)
  refine lv_iload_n hx hb dX0_putInOrder_43 rfl (lv_at hl 0 rfl) ?_
  refine lv_bipush (v := 40) hx hb dX0_putInOrder_44 (by decide) ?_
  refine lv_icmp_ge (tgt := 76) hx hb dX0_putInOrder_46 (by decide) (fun cz => absurd cz (by decide)) (fun _ => ?_)
  refine lv_aload_n hx hb dX0_putInOrder_49 rfl (lv_at hl 1 rfl) ?_
  refine va_get (D := (dC, dI)) (ci := 2) (v := .ref h2) (C := RX0) (T := TX0) (N := 4) hx hb hts in_X0 hown hK hP 0 rfl rfl 3 (by decide) (hts _ q_31) (fun _ h9 => h9) rfl dX0_putInOrder_50 ?_
  have hM67 := k20_size l hl9 dC dI z h2 h4 H63.size 10 0
  obtain ⟨hF65, hC68⟩ := pc_M hM67 hP hD hK hS hX hT hA [11] [] rfl rfl rfl
  refine va_calli (va_runV (As := []) (rest := []) ⟨hx, hb, hml, hown, hts⟩ hM67 (cwV 0 hts (gV q_92 q_77 q_78 q_12 q_75) rfl rfl rfl hV_Jx4a65c_size_8abf5 ⟨Nat.le_of_ble_eq_true rfl, Nat.le_of_ble_eq_true rfl⟩) ⟨pc_blind, va_recv hK hP (ci := 0) (q := (RJx4a65c, TJx4a65c, 3)) (q0 := 11) rfl rfl, fun U hU hW => ⟨rfl, hC68 U hU hW⟩⟩ rfl rfl hl.1 rfl (lv_room (Nat.le_of_ble_eq_true rfl)) dX0_putInOrder_53 ⟨(Nat.le_of_ble_eq_true rfl), (Nat.le_of_ble_eq_true rfl)⟩) hS (fun q9 _ h9 => hF65 q9 h9) hF65 (fun r70 u69 t69 H69 L69 ht69 hvm69 hw69 hB69 hz69 hk69 hS => ?_)
  have hP := pq_keep hP hD [11] rfl hk69 hB69.1 ht69
  have hG : s.heap.size + 0 ≤ H69.size := Nat.le_trans hG hz69
  refine W.eq (g2 := F0 m 56 ls [.int 0]) (by rw [hw69]) ?_
  refine lv_aload_n hx hb dX0_putInOrder_56 rfl (lv_at hl 1 rfl) ?_
  refine va_get (D := (dC, dI)) (ci := 2) (v := .ref h1) (C := RX0) (T := TX0) (N := 4) hx hb hts in_X0 hown hK hP 0 rfl rfl 0 (by decide) (hts _ q_28) (fun _ h9 => h9) rfl dX0_putInOrder_57 ?_
  have hM73 := k20_size l hl9 dC dI z h1 h3 H69.size 4 4
  obtain ⟨hF71, hC74⟩ := pc_M hM73 hP hD hK hS hX hT hA [1] [] rfl rfl rfl
  refine va_calli (va_runV (As := []) (rest := [.int 0]) ⟨hx, hb, hml, hown, hts⟩ hM73 (cwV 0 hts (gV q_92 q_77 q_78 q_12 q_75) rfl rfl rfl hV_Jx4a65c_size_8abf5 ⟨Nat.le_of_ble_eq_true rfl, Nat.le_of_ble_eq_true rfl⟩) ⟨pc_blind, va_recv hK hP (ci := 0) (q := (RJx4a65c, TJx4a65c, 3)) (q0 := 1) rfl rfl, fun U hU hW => ⟨rfl, hC74 U hU hW⟩⟩ rfl rfl hl.1 rfl (lv_room (Nat.le_of_ble_eq_true rfl)) dX0_putInOrder_60 ⟨(Nat.le_of_ble_eq_true rfl), (Nat.le_of_ble_eq_true rfl)⟩) hS (fun q9 _ h9 => hF71 q9 h9) hF71 (fun r76 u75 t75 H75 L75 ht75 hvm75 hw75 hB75 hz75 hk75 hS => ?_)
  have hP := pq_keep hP hD [1] rfl hk75 hB75.1 ht75
  have hG : s.heap.size + 0 ≤ H75.size := Nat.le_trans hG hz75
  refine W.eq (g2 := F0 m 63 ls [.int 4, .int 0]) (by rw [hw75]) ?_
  refine lv_icmp_ge (tgt := 76) hx hb dX0_putInOrder_63 (by decide) (fun cz => absurd cz (by decide)) (fun _ => ?_)
  refine lv_aload_n hx hb dX0_putInOrder_66 rfl (lv_at hl 1 rfl) ?_
  have hM79 := k282_placeThoseReady l hl9 dC dI z h0 h1 h2 h3 h4 h5 h6 h7 h8 h9 h10 h11 h12 o0 o1 H75.size kc0 kc1
  obtain ⟨hF77, hC80⟩ := pc_M hM79 hP hD hK hS hX hT hA [0, 1, 11, 2, 12, 3, 4, 5, 6, 7, 8, 9, 10] [0, 1] rfl rfl rfl
  refine va_callv (va_runV (As := []) (rest := []) ⟨hx, hb, hml, hown, hts⟩ hM79 (cwV 0 hts (gV q_166 q_167 q_168 q_8 q_165) rfl rfl rfl hV_X0_placeThoseReady ⟨Nat.le_of_ble_eq_true rfl, Nat.le_of_ble_eq_true rfl⟩) ⟨pc_blind, va_recv hK hP (ci := 2) (q := (RX0, TX0, 4)) (q0 := 0) rfl rfl, fun U hU hW => ⟨rfl, hC80 U hU hW⟩⟩ rfl rfl hl.1 rfl (lv_room (Nat.le_of_ble_eq_true rfl)) dX0_putInOrder_67 ⟨(Nat.le_of_ble_eq_true rfl), (Nat.le_of_ble_eq_true rfl)⟩) hS (fun q9 _ h9 => hF77 q9 h9) hF77 (fun u81 t81 H81 L81 ht81 hvm81 hw81 hB81 hz81 hk81 hS => ?_)
  obtain ⟨hP, hD, hK⟩ := pq_jn (wz := [(h0, ce7 h1 o0 o1 h2), (h1, ce147 h3), (h2, ce167 h4), (h3, ce146 kc0 h5 h6 h7 h8), (h4, ce146 kc1 h5 h6 h7 h8), (h5, ce38 (z.2.1 0) h9 h5), (h6, ce77 (z.2.1 0) h10 h6), (h7, ce115 (z.2.1 0) h11 h7), (h8, ce165 (z.2.1 0) h12 h8), (h9, ce3 z.1), (h10, ce3 z.1), (h11, ce3 z.1), (h12, ce3 z.1)]) (tz := [(kc0, .object "java/lang/Object"), (kc1, .object "java/lang/Object")]) hP hD hK [0, 1, 11, 2, 12, 3, 4, 5, 6, 7, 8, 9, 10] [] rfl hk81 hF77 hB81.1 ht81 hvm81 rfl rfl
  have hG : s.heap.size + 0 ≤ H81.size := Nat.le_trans hG hz81
  refine lv_iinc (v := 1) (lv' := [(1, .int 1), (0, .ref h0)]) hx hb dX0_putInOrder_70 hl (k := 0) rfl (by decide) (by decide) rfl (fun ls hl => ?_)
  refine lv_goto (tgt := 43) hx hb dX0_putInOrder_73 (by decide) ?_
  refine lv_iload_n hx hb dX0_putInOrder_43 rfl (lv_at hl 0 rfl) ?_
  refine lv_bipush (v := 40) hx hb dX0_putInOrder_44 (by decide) ?_
  refine lv_icmp_ge (tgt := 76) hx hb dX0_putInOrder_46 (by decide) (fun cz => absurd cz (by decide)) (fun _ => ?_)
  refine lv_aload_n hx hb dX0_putInOrder_49 rfl (lv_at hl 1 rfl) ?_
  refine va_get (D := (dC, dI)) (ci := 2) (v := .ref h2) (C := RX0) (T := TX0) (N := 4) hx hb hts in_X0 hown hK hP 0 rfl rfl 3 (by decide) (hts _ q_31) (fun _ h9 => h9) rfl dX0_putInOrder_50 ?_
  have hM85 := k20_size l hl9 dC dI z h2 h4 H81.size 14 4
  obtain ⟨hF83, hC86⟩ := pc_M hM85 hP hD hK hS hX hT hA [2] [] rfl rfl rfl
  refine va_calli (va_runV (As := []) (rest := []) ⟨hx, hb, hml, hown, hts⟩ hM85 (cwV 0 hts (gV q_92 q_77 q_78 q_12 q_75) rfl rfl rfl hV_Jx4a65c_size_8abf5 ⟨Nat.le_of_ble_eq_true rfl, Nat.le_of_ble_eq_true rfl⟩) ⟨pc_blind, va_recv hK hP (ci := 0) (q := (RJx4a65c, TJx4a65c, 3)) (q0 := 2) rfl rfl, fun U hU hW => ⟨rfl, hC86 U hU hW⟩⟩ rfl rfl hl.1 rfl (lv_room (Nat.le_of_ble_eq_true rfl)) dX0_putInOrder_53 ⟨(Nat.le_of_ble_eq_true rfl), (Nat.le_of_ble_eq_true rfl)⟩) hS (fun q9 _ h9 => hF83 q9 h9) hF83 (fun r88 u87 t87 H87 L87 ht87 hvm87 hw87 hB87 hz87 hk87 hS => ?_)
  have hP := pq_keep hP hD [2] rfl hk87 hB87.1 ht87
  have hG : s.heap.size + 0 ≤ H87.size := Nat.le_trans hG hz87
  refine W.eq (g2 := F0 m 56 ls [.int 4]) (by rw [hw87]) ?_
  refine lv_aload_n hx hb dX0_putInOrder_56 rfl (lv_at hl 1 rfl) ?_
  refine va_get (D := (dC, dI)) (ci := 2) (v := .ref h1) (C := RX0) (T := TX0) (N := 4) hx hb hts in_X0 hown hK hP 0 rfl rfl 0 (by decide) (hts _ q_28) (fun _ h9 => h9) rfl dX0_putInOrder_57 ?_
  have hM91 := k20_size l hl9 dC dI z h1 h3 H87.size 4 4
  obtain ⟨hF89, hC92⟩ := pc_M hM91 hP hD hK hS hX hT hA [1] [] rfl rfl rfl
  refine va_calli (va_runV (As := []) (rest := [.int 4]) ⟨hx, hb, hml, hown, hts⟩ hM91 (cwV 0 hts (gV q_92 q_77 q_78 q_12 q_75) rfl rfl rfl hV_Jx4a65c_size_8abf5 ⟨Nat.le_of_ble_eq_true rfl, Nat.le_of_ble_eq_true rfl⟩) ⟨pc_blind, va_recv hK hP (ci := 0) (q := (RJx4a65c, TJx4a65c, 3)) (q0 := 1) rfl rfl, fun U hU hW => ⟨rfl, hC92 U hU hW⟩⟩ rfl rfl hl.1 rfl (lv_room (Nat.le_of_ble_eq_true rfl)) dX0_putInOrder_60 ⟨(Nat.le_of_ble_eq_true rfl), (Nat.le_of_ble_eq_true rfl)⟩) hS (fun q9 _ h9 => hF89 q9 h9) hF89 (fun r94 u93 t93 H93 L93 ht93 hvm93 hw93 hB93 hz93 hk93 hS => ?_)
  have hP := pq_keep hP hD [1] rfl hk93 hB93.1 ht93
  have hG : s.heap.size + 0 ≤ H93.size := Nat.le_trans hG hz93
  refine W.eq (g2 := F0 m 63 ls [.int 4, .int 4]) (by rw [hw93]) ?_
  refine lv_icmp_ge (tgt := 76) hx hb dX0_putInOrder_63 (by decide) (fun _ => ?_) (fun cz => absurd (by decide) cz)
  exact W.vret hx hb hr (fun t9 ht9 hW9 => ⟨⟨(), rfl, trivial, ⟨pq_mk2 hP hD hK [0, 1, 2, 3, 4, 5, 6, 7, 8, 9, 10, 11, 12] [0, 1] rfl rfl rfl ht9 hW9, by rw [ht9]; exact Nat.le_trans (Nat.add_le_add_left (Nat.le_of_ble_eq_true rfl) _) hG⟩⟩, hS.F ht9⟩) hS.2.2 dX0_putInOrder_76

set_option maxHeartbeats 4000000 in
set_option maxRecDepth 100000 in
theorem k284_countReaders (l : Launch) (hl9 : l.stackTraces = false) (dC : Nat → ClassId) (dI : Nat → Nat → Nat) (z : XZ) (h0 h1 h2 h3 h4 h5 h6 h7 : Nat) (o0 o1 o2 o3 o4 o5 : Nat) (sz : Nat) (kc0 : ClassId) : Met l yX0_countReaders (.code yX0_countReaders cX0_countReaders 3 none :: wsL_law) ({ frames := 3, cells := 0, slots := 0, locals := 64 }) (va_Pc [.ref h0] (PC (dC, dI) [(h0, ce7 h1 o0 h2 o1), (h1, ce147 h3), (h2, ce3 z.1), (h3, ce146 kc0 h4 h5 h6 h7), (h4, ce38 (z.2.1 0) o2 h4), (h5, ce77 (z.2.1 0) o3 h5), (h6, ce115 (z.2.1 0) o4 h6), (h7, ce165 (z.2.1 0) o5 h7)] [(kc0, .object "java/lang/Object")] sz z)) (va_Qv (fun (_ : Unit) => True) (fun (_ : Unit) (t : State) => PG (dC, dI) [(h0, ce7 h1 o0 h2 o1), (h1, ce147 h3), (h2, ce3 z.1), (h3, ce146 kc0 h4 h5 h6 h7), (h4, ce38 (z.2.1 0) o2 h4), (h5, ce77 (z.2.1 0) o3 h5), (h6, ce115 (z.2.1 0) o4 h6), (h7, ce165 (z.2.1 0) o5 h7)] [(kc0, .object "java/lang/Object")] (va_A [(h0, ce7 h1 o0 h2 o1), (h1, ce147 h3), (h2, ce3 z.1), (h3, ce146 kc0 h4 h5 h6 h7), (h4, ce38 (z.2.1 0) o2 h4), (h5, ce77 (z.2.1 0) o3 h5), (h6, ce115 (z.2.1 0) o4 h6), (h7, ce165 (z.2.1 0) o5 h7)] sz) sz 0 t) (va_A [(h0, ce7 h1 o0 h2 o1), (h1, ce147 h3), (h2, ce3 z.1), (h3, ce146 kc0 h4 h5 h6 h7), (h4, ce38 (z.2.1 0) o2 h4), (h5, ce77 (z.2.1 0) o3 h5), (h6, ce115 (z.2.1 0) o4 h6), (h7, ce165 (z.2.1 0) o5 h7)] sz)) 0 0 (va_A [(h0, ce7 h1 o0 h2 o1), (h1, ce147 h3), (h2, ce3 z.1), (h3, ce146 kc0 h4 h5 h6 h7), (h4, ce38 (z.2.1 0) o2 h4), (h5, ce77 (z.2.1 0) o3 h5), (h6, ce115 (z.2.1 0) o4 h6), (h7, ce165 (z.2.1 0) o5 h7)] sz) := by
  refine Met.ofW (cc := cX0_countReaders) (maxL := 3) (ret := none) (by decide) rfl ?_
  intro p e s m args below meth c s₁ B hml hv
  obtain ⟨rfl, hsz, hP, hK, hD0, hX, hT⟩ := hv
  have hx := B.exec
  have hb := B.bytes
  have hr := B.returns
  have hts0 := atoms_spec (ws := .code yX0_countReaders cX0_countReaders 3 none :: wsL_law) B.pre
  have hts := xTail hts0
  have hown : s.vm.findClass RX0 = some m.cls := xown B.named rfl
  have hlocks := B.notSynchronized
  subst hsz
  have hD := hD0.self (sz := s.heap.size)
  generalize hAe : va_A [(h0, ce7 h1 o0 h2 o1), (h1, ce147 h3), (h2, ce3 z.1), (h3, ce146 kc0 h4 h5 h6 h7), (h4, ce38 (z.2.1 0) o2 h4), (h5, ce77 (z.2.1 0) o3 h5), (h6, ce115 (z.2.1 0) o4 h6), (h7, ce165 (z.2.1 0) o5 h7)] s.heap.size = A at hD hX ⊢
  have hA : ∀ q : Nat, s.heap.size ≤ q → A q := fun q h => by rw [← hAe]; exact Or.inr h
  have hS : va_S A s.heap s.heap [] := va_S.rf
  have hG : s.heap.size + 0 ≤ s.heap.size := Nat.le_refl _
  have hl := lv_entry ([.ref h0]) (n := 3) (Nat.le_of_ble_eq_true rfl)
  rw [lg_entry_eq]
  generalize (lg_sl ([.ref h0]) ++ List.replicate (3 - (lg_sl ([.ref h0])).length) Slot.unset).toArray = ls at hl ⊢
  have hl : lv_has ls 3 [(0, .ref h0)] := hl
  refine lv_iconst (v := 0) hx hb dX0_countReaders_0 (by decide) ?_
  refine lv_istore_n (lv' := [(1, .int 0), (0, .ref h0)]) hx hb dX0_countReaders_1 rfl hl (by decide) rfl (fun ls hl => ?_)
  refine lv_iload_n hx hb dX0_countReaders_2 rfl (lv_at hl 0 rfl) ?_
  refine lv_aload_n hx hb dX0_countReaders_3 rfl (lv_at hl 1 rfl) ?_
  refine va_get (D := (dC, dI)) (ci := 2) (v := .ref h1) (C := RX0) (T := TX0) (N := 4) hx hb hts in_X0 hown hK hP 0 rfl rfl 0 (by decide) (hts _ q_28) (fun _ h9 => h9) rfl dX0_countReaders_4 ?_
  have hM3 := k20_size l hl9 dC dI z h1 h3 s.heap.size 4 4
  obtain ⟨hF1, hC4⟩ := pc_M hM3 hP hD hK hS hX hT hA [1] [] rfl rfl rfl
  refine va_calli (va_runV (As := []) (rest := [.int 0]) ⟨hx, hb, hml, hown, hts⟩ hM3 (cwV 0 hts (gV q_92 q_77 q_78 q_12 q_75) rfl rfl rfl hV_Jx4a65c_size_8abf5 ⟨Nat.le_of_ble_eq_true rfl, Nat.le_of_ble_eq_true rfl⟩) ⟨pc_blind, va_recv hK hP (ci := 0) (q := (RJx4a65c, TJx4a65c, 3)) (q0 := 1) rfl rfl, fun U hU hW => ⟨rfl, hC4 U hU hW⟩⟩ rfl rfl hl.1 rfl (lv_room (Nat.le_of_ble_eq_true rfl)) dX0_countReaders_7 ⟨(Nat.le_of_ble_eq_true rfl), (Nat.le_of_ble_eq_true rfl)⟩) hS (fun q9 _ h9 => hF1 q9 h9) hF1 (fun r6 u5 t5 H5 L5 ht5 hvm5 hw5 hB5 hz5 hk5 hS => ?_)
  have hP := pq_keep hP hD [1] rfl hk5 hB5.1 ht5
  have hG : s.heap.size + 0 ≤ H5.size := Nat.le_trans hG hz5
  refine W.eq (g2 := F0 m 10 ls [.int 4, .int 0]) (by rw [hw5]) ?_
  refine lv_icmp_ge (tgt := 34) hx hb dX0_countReaders_10 (by decide) (fun cz => absurd cz (by decide)) (fun _ => ?_)
  refine lv_aload_n hx hb dX0_countReaders_13 rfl (lv_at hl 1 rfl) ?_
  refine va_get (D := (dC, dI)) (ci := 2) (v := .ref h1) (C := RX0) (T := TX0) (N := 4) hx hb hts in_X0 hown hK hP 0 rfl rfl 0 (by decide) (hts _ q_28) (fun _ h9 => h9) rfl dX0_countReaders_14 ?_
  refine lv_iload_n hx hb dX0_countReaders_17 rfl (lv_at hl 0 rfl) ?_
  have hM9 := k260_get l hl9 dC dI z h1 h3 h4 h5 h6 h7 H5.size kc0
  obtain ⟨hF7, hC10⟩ := pc_M hM9 hP hD hK hS hX hT hA [1, 3] [0] rfl rfl rfl
  refine va_callr (va_runV (As := [.int 0]) (rest := []) ⟨hx, hb, hml, hown, hts⟩ hM9 (cwV 1 hts (gV q_156 q_157 q_158 q_12 q_155) rfl rfl rfl hV_Jx4a65c_get_915e3 ⟨Nat.le_of_ble_eq_true rfl, Nat.le_of_ble_eq_true rfl⟩) ⟨pc_blind, va_recv hK hP (ci := 0) (q := (RJx4a65c, TJx4a65c, 3)) (q0 := 1) rfl rfl, fun U hU hW => ⟨rfl, hC10 U hU hW⟩⟩ rfl rfl hl.1 rfl (lv_room (Nat.le_of_ble_eq_true rfl)) dX0_countReaders_18 ⟨(Nat.le_of_ble_eq_true rfl), (Nat.le_of_ble_eq_true rfl)⟩) hS (fun q9 _ h9 => hF7 q9 h9) hF7 (fun u11 r12 t11 H11 L11 ht11 hvm11 hw11 hB11 hz11 hk11 hS => ?_)
  obtain ⟨hr11, hB11⟩ := hB11
  have hP := pq_keep hP hD [1, 3] rfl hk11 hB11.1 ht11
  have hG : s.heap.size + 0 ≤ H11.size := Nat.le_trans hG hz11
  refine W.eq (g2 := F0 m 21 ls [.ref h4]) (by rw [hr11]) ?_
  refine va_castE (nm := RX2) hx hb hown (hts _ q_89) (va_recv hK hP (ci := 3) (q := (RX2, TX2, 19)) (q0 := 4) rfl rfl) dX0_countReaders_21 ?_
  refine lv_iconst (v := 0) hx hb dX0_countReaders_24 (by decide) ?_
  refine va_put (D := (dC, dI)) (ci := 3) (v := .int 0) (ty := .int) (C := RX2) (T := TX2) (N := 19) hx hb hts in_X2 tyX2 tyX2_ok nmX2 hown hK hP hD (va_Sre hS) 4 rfl rfl 13 (by decide) (hts _ q_173) (fun _ h9 => h9) rfl (by decide +kernel) rfl rfl (Nat.le_of_ble_eq_true rfl) dX0_countReaders_25 (fun H13 _ hP hD hS' => ?_)
  have hG : s.heap.size + 0 ≤ H13.size := Nat.le_trans hG hS'.1
  have hS := va_Str hS hS'
  have hP : va_P (dC, dI) xCl [(h0, ce7 h1 o0 h2 o1), (h1, ce147 h3), (h2, ce3 z.1), (h3, ce146 kc0 h4 h5 h6 h7), (h4, ce38 (z.2.1 0) o2 h4), (h5, ce77 (z.2.1 0) o3 h5), (h6, ce115 (z.2.1 0) o4 h6), (h7, ce165 (z.2.1 0) o5 h7)] H13 := hP
  have hD := vd_as hP hD rfl
  refine lv_iinc (v := 1) (lv' := [(1, .int 1), (0, .ref h0)]) hx hb dX0_countReaders_28 hl (k := 0) rfl (by decide) (by decide) rfl (fun ls hl => ?_)
  refine lv_goto (tgt := 2) hx hb dX0_countReaders_31 (by decide) ?_
  refine lv_iload_n hx hb dX0_countReaders_2 rfl (lv_at hl 0 rfl) ?_
  refine lv_aload_n hx hb dX0_countReaders_3 rfl (lv_at hl 1 rfl) ?_
  refine va_get (D := (dC, dI)) (ci := 2) (v := .ref h1) (C := RX0) (T := TX0) (N := 4) hx hb hts in_X0 hown hK hP 0 rfl rfl 0 (by decide) (hts _ q_28) (fun _ h9 => h9) rfl dX0_countReaders_4 ?_
  have hM16 := k20_size l hl9 dC dI z h1 h3 H13.size 4 4
  obtain ⟨hF14, hC17⟩ := pc_M hM16 hP hD hK hS hX hT hA [1] [] rfl rfl rfl
  refine va_calli (va_runV (As := []) (rest := [.int 1]) ⟨hx, hb, hml, hown, hts⟩ hM16 (cwV 0 hts (gV q_92 q_77 q_78 q_12 q_75) rfl rfl rfl hV_Jx4a65c_size_8abf5 ⟨Nat.le_of_ble_eq_true rfl, Nat.le_of_ble_eq_true rfl⟩) ⟨pc_blind, va_recv hK hP (ci := 0) (q := (RJx4a65c, TJx4a65c, 3)) (q0 := 1) rfl rfl, fun U hU hW => ⟨rfl, hC17 U hU hW⟩⟩ rfl rfl hl.1 rfl (lv_room (Nat.le_of_ble_eq_true rfl)) dX0_countReaders_7 ⟨(Nat.le_of_ble_eq_true rfl), (Nat.le_of_ble_eq_true rfl)⟩) hS (fun q9 _ h9 => hF14 q9 h9) hF14 (fun r19 u18 t18 H18 L18 ht18 hvm18 hw18 hB18 hz18 hk18 hS => ?_)
  have hP := pq_keep hP hD [1] rfl hk18 hB18.1 ht18
  have hG : s.heap.size + 0 ≤ H18.size := Nat.le_trans hG hz18
  refine W.eq (g2 := F0 m 10 ls [.int 4, .int 1]) (by rw [hw18]) ?_
  refine lv_icmp_ge (tgt := 34) hx hb dX0_countReaders_10 (by decide) (fun cz => absurd cz (by decide)) (fun _ => ?_)
  refine lv_aload_n hx hb dX0_countReaders_13 rfl (lv_at hl 1 rfl) ?_
  refine va_get (D := (dC, dI)) (ci := 2) (v := .ref h1) (C := RX0) (T := TX0) (N := 4) hx hb hts in_X0 hown hK hP 0 rfl rfl 0 (by decide) (hts _ q_28) (fun _ h9 => h9) rfl dX0_countReaders_14 ?_
  refine lv_iload_n hx hb dX0_countReaders_17 rfl (lv_at hl 0 rfl) ?_
  have hM22 := k264_get l hl9 dC dI z h1 h3 h4 h5 h6 h7 H18.size kc0
  obtain ⟨hF20, hC23⟩ := pc_M hM22 hP hD hK hS hX hT hA [1, 3] [0] rfl rfl rfl
  refine va_callr (va_runV (As := [.int 1]) (rest := []) ⟨hx, hb, hml, hown, hts⟩ hM22 (cwV 1 hts (gV q_156 q_157 q_158 q_12 q_155) rfl rfl rfl hV_Jx4a65c_get_915e3 ⟨Nat.le_of_ble_eq_true rfl, Nat.le_of_ble_eq_true rfl⟩) ⟨pc_blind, va_recv hK hP (ci := 0) (q := (RJx4a65c, TJx4a65c, 3)) (q0 := 1) rfl rfl, fun U hU hW => ⟨rfl, hC23 U hU hW⟩⟩ rfl rfl hl.1 rfl (lv_room (Nat.le_of_ble_eq_true rfl)) dX0_countReaders_18 ⟨(Nat.le_of_ble_eq_true rfl), (Nat.le_of_ble_eq_true rfl)⟩) hS (fun q9 _ h9 => hF20 q9 h9) hF20 (fun u24 r25 t24 H24 L24 ht24 hvm24 hw24 hB24 hz24 hk24 hS => ?_)
  obtain ⟨hr24, hB24⟩ := hB24
  have hP := pq_keep hP hD [1, 3] rfl hk24 hB24.1 ht24
  have hG : s.heap.size + 0 ≤ H24.size := Nat.le_trans hG hz24
  refine W.eq (g2 := F0 m 21 ls [.ref h5]) (by rw [hr24]) ?_
  refine va_castE (nm := RX2) hx hb hown (hts _ q_89) (va_recv hK hP (ci := 3) (q := (RX2, TX2, 19)) (q0 := 5) rfl rfl) dX0_countReaders_21 ?_
  refine lv_iconst (v := 0) hx hb dX0_countReaders_24 (by decide) ?_
  refine va_put (D := (dC, dI)) (ci := 3) (v := .int 0) (ty := .int) (C := RX2) (T := TX2) (N := 19) hx hb hts in_X2 tyX2 tyX2_ok nmX2 hown hK hP hD (va_Sre hS) 5 rfl rfl 13 (by decide) (hts _ q_173) (fun _ h9 => h9) rfl (by decide +kernel) rfl rfl (Nat.le_of_ble_eq_true rfl) dX0_countReaders_25 (fun H26 _ hP hD hS' => ?_)
  have hG : s.heap.size + 0 ≤ H26.size := Nat.le_trans hG hS'.1
  have hS := va_Str hS hS'
  have hP : va_P (dC, dI) xCl [(h0, ce7 h1 o0 h2 o1), (h1, ce147 h3), (h2, ce3 z.1), (h3, ce146 kc0 h4 h5 h6 h7), (h4, ce38 (z.2.1 0) o2 h4), (h5, ce77 (z.2.1 0) o3 h5), (h6, ce115 (z.2.1 0) o4 h6), (h7, ce165 (z.2.1 0) o5 h7)] H26 := hP
  have hD := vd_as hP hD rfl
  refine lv_iinc (v := 2) (lv' := [(1, .int 2), (0, .ref h0)]) hx hb dX0_countReaders_28 hl (k := 0) rfl (by decide) (by decide) rfl (fun ls hl => ?_)
  refine lv_goto (tgt := 2) hx hb dX0_countReaders_31 (by decide) ?_
  refine lv_iload_n hx hb dX0_countReaders_2 rfl (lv_at hl 0 rfl) ?_
  refine lv_aload_n hx hb dX0_countReaders_3 rfl (lv_at hl 1 rfl) ?_
  refine va_get (D := (dC, dI)) (ci := 2) (v := .ref h1) (C := RX0) (T := TX0) (N := 4) hx hb hts in_X0 hown hK hP 0 rfl rfl 0 (by decide) (hts _ q_28) (fun _ h9 => h9) rfl dX0_countReaders_4 ?_
  have hM29 := k20_size l hl9 dC dI z h1 h3 H26.size 4 4
  obtain ⟨hF27, hC30⟩ := pc_M hM29 hP hD hK hS hX hT hA [1] [] rfl rfl rfl
  refine va_calli (va_runV (As := []) (rest := [.int 2]) ⟨hx, hb, hml, hown, hts⟩ hM29 (cwV 0 hts (gV q_92 q_77 q_78 q_12 q_75) rfl rfl rfl hV_Jx4a65c_size_8abf5 ⟨Nat.le_of_ble_eq_true rfl, Nat.le_of_ble_eq_true rfl⟩) ⟨pc_blind, va_recv hK hP (ci := 0) (q := (RJx4a65c, TJx4a65c, 3)) (q0 := 1) rfl rfl, fun U hU hW => ⟨rfl, hC30 U hU hW⟩⟩ rfl rfl hl.1 rfl (lv_room (Nat.le_of_ble_eq_true rfl)) dX0_countReaders_7 ⟨(Nat.le_of_ble_eq_true rfl), (Nat.le_of_ble_eq_true rfl)⟩) hS (fun q9 _ h9 => hF27 q9 h9) hF27 (fun r32 u31 t31 H31 L31 ht31 hvm31 hw31 hB31 hz31 hk31 hS => ?_)
  have hP := pq_keep hP hD [1] rfl hk31 hB31.1 ht31
  have hG : s.heap.size + 0 ≤ H31.size := Nat.le_trans hG hz31
  refine W.eq (g2 := F0 m 10 ls [.int 4, .int 2]) (by rw [hw31]) ?_
  refine lv_icmp_ge (tgt := 34) hx hb dX0_countReaders_10 (by decide) (fun cz => absurd cz (by decide)) (fun _ => ?_)
  refine lv_aload_n hx hb dX0_countReaders_13 rfl (lv_at hl 1 rfl) ?_
  refine va_get (D := (dC, dI)) (ci := 2) (v := .ref h1) (C := RX0) (T := TX0) (N := 4) hx hb hts in_X0 hown hK hP 0 rfl rfl 0 (by decide) (hts _ q_28) (fun _ h9 => h9) rfl dX0_countReaders_14 ?_
  refine lv_iload_n hx hb dX0_countReaders_17 rfl (lv_at hl 0 rfl) ?_
  have hM35 := k268_get l hl9 dC dI z h1 h3 h4 h5 h6 h7 H31.size kc0
  obtain ⟨hF33, hC36⟩ := pc_M hM35 hP hD hK hS hX hT hA [1, 3] [0] rfl rfl rfl
  refine va_callr (va_runV (As := [.int 2]) (rest := []) ⟨hx, hb, hml, hown, hts⟩ hM35 (cwV 1 hts (gV q_156 q_157 q_158 q_12 q_155) rfl rfl rfl hV_Jx4a65c_get_915e3 ⟨Nat.le_of_ble_eq_true rfl, Nat.le_of_ble_eq_true rfl⟩) ⟨pc_blind, va_recv hK hP (ci := 0) (q := (RJx4a65c, TJx4a65c, 3)) (q0 := 1) rfl rfl, fun U hU hW => ⟨rfl, hC36 U hU hW⟩⟩ rfl rfl hl.1 rfl (lv_room (Nat.le_of_ble_eq_true rfl)) dX0_countReaders_18 ⟨(Nat.le_of_ble_eq_true rfl), (Nat.le_of_ble_eq_true rfl)⟩) hS (fun q9 _ h9 => hF33 q9 h9) hF33 (fun u37 r38 t37 H37 L37 ht37 hvm37 hw37 hB37 hz37 hk37 hS => ?_)
  obtain ⟨hr37, hB37⟩ := hB37
  have hP := pq_keep hP hD [1, 3] rfl hk37 hB37.1 ht37
  have hG : s.heap.size + 0 ≤ H37.size := Nat.le_trans hG hz37
  refine W.eq (g2 := F0 m 21 ls [.ref h6]) (by rw [hr37]) ?_
  refine va_castE (nm := RX2) hx hb hown (hts _ q_89) (va_recv hK hP (ci := 3) (q := (RX2, TX2, 19)) (q0 := 6) rfl rfl) dX0_countReaders_21 ?_
  refine lv_iconst (v := 0) hx hb dX0_countReaders_24 (by decide) ?_
  refine va_put (D := (dC, dI)) (ci := 3) (v := .int 0) (ty := .int) (C := RX2) (T := TX2) (N := 19) hx hb hts in_X2 tyX2 tyX2_ok nmX2 hown hK hP hD (va_Sre hS) 6 rfl rfl 13 (by decide) (hts _ q_173) (fun _ h9 => h9) rfl (by decide +kernel) rfl rfl (Nat.le_of_ble_eq_true rfl) dX0_countReaders_25 (fun H39 _ hP hD hS' => ?_)
  have hG : s.heap.size + 0 ≤ H39.size := Nat.le_trans hG hS'.1
  have hS := va_Str hS hS'
  have hP : va_P (dC, dI) xCl [(h0, ce7 h1 o0 h2 o1), (h1, ce147 h3), (h2, ce3 z.1), (h3, ce146 kc0 h4 h5 h6 h7), (h4, ce38 (z.2.1 0) o2 h4), (h5, ce77 (z.2.1 0) o3 h5), (h6, ce115 (z.2.1 0) o4 h6), (h7, ce165 (z.2.1 0) o5 h7)] H39 := hP
  have hD := vd_as hP hD rfl
  refine lv_iinc (v := 3) (lv' := [(1, .int 3), (0, .ref h0)]) hx hb dX0_countReaders_28 hl (k := 0) rfl (by decide) (by decide) rfl (fun ls hl => ?_)
  refine lv_goto (tgt := 2) hx hb dX0_countReaders_31 (by decide) ?_
  refine lv_iload_n hx hb dX0_countReaders_2 rfl (lv_at hl 0 rfl) ?_
  refine lv_aload_n hx hb dX0_countReaders_3 rfl (lv_at hl 1 rfl) ?_
  refine va_get (D := (dC, dI)) (ci := 2) (v := .ref h1) (C := RX0) (T := TX0) (N := 4) hx hb hts in_X0 hown hK hP 0 rfl rfl 0 (by decide) (hts _ q_28) (fun _ h9 => h9) rfl dX0_countReaders_4 ?_
  have hM42 := k20_size l hl9 dC dI z h1 h3 H39.size 4 4
  obtain ⟨hF40, hC43⟩ := pc_M hM42 hP hD hK hS hX hT hA [1] [] rfl rfl rfl
  refine va_calli (va_runV (As := []) (rest := [.int 3]) ⟨hx, hb, hml, hown, hts⟩ hM42 (cwV 0 hts (gV q_92 q_77 q_78 q_12 q_75) rfl rfl rfl hV_Jx4a65c_size_8abf5 ⟨Nat.le_of_ble_eq_true rfl, Nat.le_of_ble_eq_true rfl⟩) ⟨pc_blind, va_recv hK hP (ci := 0) (q := (RJx4a65c, TJx4a65c, 3)) (q0 := 1) rfl rfl, fun U hU hW => ⟨rfl, hC43 U hU hW⟩⟩ rfl rfl hl.1 rfl (lv_room (Nat.le_of_ble_eq_true rfl)) dX0_countReaders_7 ⟨(Nat.le_of_ble_eq_true rfl), (Nat.le_of_ble_eq_true rfl)⟩) hS (fun q9 _ h9 => hF40 q9 h9) hF40 (fun r45 u44 t44 H44 L44 ht44 hvm44 hw44 hB44 hz44 hk44 hS => ?_)
  have hP := pq_keep hP hD [1] rfl hk44 hB44.1 ht44
  have hG : s.heap.size + 0 ≤ H44.size := Nat.le_trans hG hz44
  refine W.eq (g2 := F0 m 10 ls [.int 4, .int 3]) (by rw [hw44]) ?_
  refine lv_icmp_ge (tgt := 34) hx hb dX0_countReaders_10 (by decide) (fun cz => absurd cz (by decide)) (fun _ => ?_)
  refine lv_aload_n hx hb dX0_countReaders_13 rfl (lv_at hl 1 rfl) ?_
  refine va_get (D := (dC, dI)) (ci := 2) (v := .ref h1) (C := RX0) (T := TX0) (N := 4) hx hb hts in_X0 hown hK hP 0 rfl rfl 0 (by decide) (hts _ q_28) (fun _ h9 => h9) rfl dX0_countReaders_14 ?_
  refine lv_iload_n hx hb dX0_countReaders_17 rfl (lv_at hl 0 rfl) ?_
  have hM48 := k272_get l hl9 dC dI z h1 h3 h4 h5 h6 h7 H44.size kc0
  obtain ⟨hF46, hC49⟩ := pc_M hM48 hP hD hK hS hX hT hA [1, 3] [0] rfl rfl rfl
  refine va_callr (va_runV (As := [.int 3]) (rest := []) ⟨hx, hb, hml, hown, hts⟩ hM48 (cwV 1 hts (gV q_156 q_157 q_158 q_12 q_155) rfl rfl rfl hV_Jx4a65c_get_915e3 ⟨Nat.le_of_ble_eq_true rfl, Nat.le_of_ble_eq_true rfl⟩) ⟨pc_blind, va_recv hK hP (ci := 0) (q := (RJx4a65c, TJx4a65c, 3)) (q0 := 1) rfl rfl, fun U hU hW => ⟨rfl, hC49 U hU hW⟩⟩ rfl rfl hl.1 rfl (lv_room (Nat.le_of_ble_eq_true rfl)) dX0_countReaders_18 ⟨(Nat.le_of_ble_eq_true rfl), (Nat.le_of_ble_eq_true rfl)⟩) hS (fun q9 _ h9 => hF46 q9 h9) hF46 (fun u50 r51 t50 H50 L50 ht50 hvm50 hw50 hB50 hz50 hk50 hS => ?_)
  obtain ⟨hr50, hB50⟩ := hB50
  have hP := pq_keep hP hD [1, 3] rfl hk50 hB50.1 ht50
  have hG : s.heap.size + 0 ≤ H50.size := Nat.le_trans hG hz50
  refine W.eq (g2 := F0 m 21 ls [.ref h7]) (by rw [hr50]) ?_
  refine va_castE (nm := RX2) hx hb hown (hts _ q_89) (va_recv hK hP (ci := 3) (q := (RX2, TX2, 19)) (q0 := 7) rfl rfl) dX0_countReaders_21 ?_
  refine lv_iconst (v := 0) hx hb dX0_countReaders_24 (by decide) ?_
  refine va_put (D := (dC, dI)) (ci := 3) (v := .int 0) (ty := .int) (C := RX2) (T := TX2) (N := 19) hx hb hts in_X2 tyX2 tyX2_ok nmX2 hown hK hP hD (va_Sre hS) 7 rfl rfl 13 (by decide) (hts _ q_173) (fun _ h9 => h9) rfl (by decide +kernel) rfl rfl (Nat.le_of_ble_eq_true rfl) dX0_countReaders_25 (fun H52 _ hP hD hS' => ?_)
  have hG : s.heap.size + 0 ≤ H52.size := Nat.le_trans hG hS'.1
  have hS := va_Str hS hS'
  have hP : va_P (dC, dI) xCl [(h0, ce7 h1 o0 h2 o1), (h1, ce147 h3), (h2, ce3 z.1), (h3, ce146 kc0 h4 h5 h6 h7), (h4, ce38 (z.2.1 0) o2 h4), (h5, ce77 (z.2.1 0) o3 h5), (h6, ce115 (z.2.1 0) o4 h6), (h7, ce165 (z.2.1 0) o5 h7)] H52 := hP
  have hD := vd_as hP hD rfl
  refine lv_iinc (v := 4) (lv' := [(1, .int 4), (0, .ref h0)]) hx hb dX0_countReaders_28 hl (k := 0) rfl (by decide) (by decide) rfl (fun ls hl => ?_)
  refine lv_goto (tgt := 2) hx hb dX0_countReaders_31 (by decide) ?_
  refine lv_iload_n hx hb dX0_countReaders_2 rfl (lv_at hl 0 rfl) ?_
  refine lv_aload_n hx hb dX0_countReaders_3 rfl (lv_at hl 1 rfl) ?_
  refine va_get (D := (dC, dI)) (ci := 2) (v := .ref h1) (C := RX0) (T := TX0) (N := 4) hx hb hts in_X0 hown hK hP 0 rfl rfl 0 (by decide) (hts _ q_28) (fun _ h9 => h9) rfl dX0_countReaders_4 ?_
  have hM55 := k20_size l hl9 dC dI z h1 h3 H52.size 4 4
  obtain ⟨hF53, hC56⟩ := pc_M hM55 hP hD hK hS hX hT hA [1] [] rfl rfl rfl
  refine va_calli (va_runV (As := []) (rest := [.int 4]) ⟨hx, hb, hml, hown, hts⟩ hM55 (cwV 0 hts (gV q_92 q_77 q_78 q_12 q_75) rfl rfl rfl hV_Jx4a65c_size_8abf5 ⟨Nat.le_of_ble_eq_true rfl, Nat.le_of_ble_eq_true rfl⟩) ⟨pc_blind, va_recv hK hP (ci := 0) (q := (RJx4a65c, TJx4a65c, 3)) (q0 := 1) rfl rfl, fun U hU hW => ⟨rfl, hC56 U hU hW⟩⟩ rfl rfl hl.1 rfl (lv_room (Nat.le_of_ble_eq_true rfl)) dX0_countReaders_7 ⟨(Nat.le_of_ble_eq_true rfl), (Nat.le_of_ble_eq_true rfl)⟩) hS (fun q9 _ h9 => hF53 q9 h9) hF53 (fun r58 u57 t57 H57 L57 ht57 hvm57 hw57 hB57 hz57 hk57 hS => ?_)
  have hP := pq_keep hP hD [1] rfl hk57 hB57.1 ht57
  have hG : s.heap.size + 0 ≤ H57.size := Nat.le_trans hG hz57
  refine W.eq (g2 := F0 m 10 ls [.int 4, .int 4]) (by rw [hw57]) ?_
  refine lv_icmp_ge (tgt := 34) hx hb dX0_countReaders_10 (by decide) (fun _ => ?_) (fun cz => absurd (by decide) cz)
  refine lv_iconst (v := 0) hx hb dX0_countReaders_34 (by decide) ?_
  refine lv_istore_n (lv' := [(1, .int 0), (0, .ref h0)]) hx hb dX0_countReaders_35 rfl hl (by decide) rfl (fun ls hl => ?_)
  refine lv_iload_n hx hb dX0_countReaders_36 rfl (lv_at hl 0 rfl) ?_
  refine lv_aload_n hx hb dX0_countReaders_37 rfl (lv_at hl 1 rfl) ?_
  refine va_get (D := (dC, dI)) (ci := 2) (v := .ref h2) (C := RX0) (T := TX0) (N := 4) hx hb hts in_X0 hown hK hP 0 rfl rfl 2 (by decide) (hts _ q_30) (fun _ h9 => h9) rfl dX0_countReaders_38 ?_
  have hM61 := k9_size l hl9 dC dI z h2 H57.size 0 0
  obtain ⟨hF59, hC62⟩ := pc_M hM61 hP hD hK hS hX hT hA [2] [] rfl rfl rfl
  refine va_calli (va_runV (As := []) (rest := [.int 0]) ⟨hx, hb, hml, hown, hts⟩ hM61 (cwV 0 hts (gV q_92 q_77 q_78 q_12 q_75) rfl rfl rfl hV_Jx4a65c_size_8abf5 ⟨Nat.le_of_ble_eq_true rfl, Nat.le_of_ble_eq_true rfl⟩) ⟨pc_blind, va_recv hK hP (ci := 0) (q := (RJx4a65c, TJx4a65c, 3)) (q0 := 2) rfl rfl, fun U hU hW => ⟨rfl, hC62 U hU hW⟩⟩ rfl rfl hl.1 rfl (lv_room (Nat.le_of_ble_eq_true rfl)) dX0_countReaders_41 ⟨(Nat.le_of_ble_eq_true rfl), (Nat.le_of_ble_eq_true rfl)⟩) hS (fun q9 _ h9 => hF59 q9 h9) hF59 (fun r64 u63 t63 H63 L63 ht63 hvm63 hw63 hB63 hz63 hk63 hS => ?_)
  have hP := pq_keep hP hD [2] rfl hk63 hB63.1 ht63
  have hG : s.heap.size + 0 ≤ H63.size := Nat.le_trans hG hz63
  refine W.eq (g2 := F0 m 44 ls [.int 0, .int 0]) (by rw [hw63]) ?_
  refine lv_icmp_ge (tgt := 102) hx hb dX0_countReaders_44 (by decide) (fun _ => ?_) (fun cz => absurd (by decide) cz)
  exact W.vret hx hb hr (fun t9 ht9 hW9 => ⟨⟨(), rfl, trivial, ⟨pq_mk2 hP hD hK [0, 1, 2, 3, 4, 5, 6, 7] [0] rfl rfl rfl ht9 hW9, by rw [ht9]; exact Nat.le_trans (Nat.add_le_add_left (Nat.le_of_ble_eq_true rfl) _) hG⟩⟩, hS.F ht9⟩) hS.2.2 dX0_countReaders_102

set_option maxHeartbeats 4000000 in
set_option maxRecDepth 100000 in
theorem k285_elementData (l : Launch) (hl9 : l.stackTraces = false) (dC : Nat → ClassId) (dI : Nat → Nat → Nat) (z : XZ) (h0 h1 : Nat) (o0 o1 o2 o3 : Nat) (sz : Nat) (kc0 : ClassId) : Met l yJx4a65c_elementData_915e3 (.code yJx4a65c_elementData_915e3 cJx4a65c_elementData_915e3 2 (some (.object "java/lang/Object")) :: wsL_law) ({ frames := 0, cells := 0, slots := 0, locals := 0 }) (va_Pc [.ref h0, .int 0] (PC (dC, dI) [(h0, ce167 h1), (h1, ce146 kc0 o0 o1 o2 o3)] [(kc0, .object "java/lang/Object")] sz z)) (va_Qr (fun (_ : Unit) => True) (fun (_ : Unit) (ra : Nat) (t : State) => ra = o0 ∧ PG (dC, dI) [(h0, ce167 h1), (h1, ce146 kc0 o0 o1 o2 o3)] [(kc0, .object "java/lang/Object")] (va_A [(h0, ce167 h1), (h1, ce146 kc0 o0 o1 o2 o3)] sz) sz 0 t) (va_A [(h0, ce167 h1), (h1, ce146 kc0 o0 o1 o2 o3)] sz)) 0 0 (va_A [(h0, ce167 h1), (h1, ce146 kc0 o0 o1 o2 o3)] sz) := by
  refine Met.ofW (cc := cJx4a65c_elementData_915e3) (maxL := 2) (ret := (some (.object "java/lang/Object"))) (by decide) rfl ?_
  intro p e s m args below meth c s₁ B hml hv
  obtain ⟨rfl, hsz, hP, hK, hD0, hX, hT⟩ := hv
  have hx := B.exec
  have hb := B.bytes
  have hr := B.returns
  have hts0 := atoms_spec (ws := .code yJx4a65c_elementData_915e3 cJx4a65c_elementData_915e3 2 (some (.object "java/lang/Object")) :: wsL_law) B.pre
  have hts := xTail hts0
  have hown : s.vm.findClass RJx4a65c = some m.cls := xown B.named rfl
  have hlocks := B.notSynchronized
  subst hsz
  have hD := hD0.self (sz := s.heap.size)
  generalize hAe : va_A [(h0, ce167 h1), (h1, ce146 kc0 o0 o1 o2 o3)] s.heap.size = A at hD hX ⊢
  have hA : ∀ q : Nat, s.heap.size ≤ q → A q := fun q h => by rw [← hAe]; exact Or.inr h
  have hS : va_S A s.heap s.heap [] := va_S.rf
  have hG : s.heap.size + 0 ≤ s.heap.size := Nat.le_refl _
  have hl := lv_entry ([.ref h0, .int 0]) (n := 2) (Nat.le_of_ble_eq_true rfl)
  rw [lg_entry_eq]
  generalize (lg_sl ([.ref h0, .int 0]) ++ List.replicate (2 - (lg_sl ([.ref h0, .int 0])).length) Slot.unset).toArray = ls at hl ⊢
  have hl : lv_has ls 2 [(0, .ref h0), (1, .int 0)] := hl
  refine lv_aload_n hx hb dJx4a65c_elementData_915e3_0 rfl (lv_at hl 0 rfl) ?_
  refine va_get (D := (dC, dI)) (ci := 0) (v := .ref h1) (C := RJx4a65c) (T := TJx4a65c) (N := 3) hx hb hts in_Jx4a65c hown hK hP 0 rfl rfl 1 (by decide) (hts _ q_24) (fun _ h9 => h9) rfl dJx4a65c_elementData_915e3_1 ?_
  refine lv_iload_n hx hb dJx4a65c_elementData_915e3_4 rfl (lv_at hl 1 rfl) ?_
  refine va_aldq hx hb hK hP 1 0 rfl rfl (i := 0) (by unfold vp_in; decide) dJx4a65c_elementData_915e3_5 ?_
  refine W.eq (g2 := F0 m 6 ls [.ref o0]) rfl ?_
  exact W.aret (v := .ref o0) hx hb hr (by first | exact Or.inl ⟨_, rfl⟩ | exact Or.inr ⟨_, rfl⟩) (Or.inr ⟨_, rfl⟩) (fun t9 ht9 hW9 => ⟨⟨(), o0, rfl, trivial, ⟨rfl, ⟨pq_mk2 hP hD hK [0, 1] [0] rfl rfl rfl ht9 hW9, by rw [ht9]; exact Nat.le_trans (Nat.add_le_add_left (Nat.le_of_ble_eq_true rfl) _) hG⟩⟩⟩, hS.F ht9⟩) hS.2.2 dJx4a65c_elementData_915e3_6

set_option maxHeartbeats 4000000 in
set_option maxRecDepth 100000 in
theorem k286_get (l : Launch) (hl9 : l.stackTraces = false) (dC : Nat → ClassId) (dI : Nat → Nat → Nat) (z : XZ) (h0 h1 : Nat) (o0 o1 o2 o3 : Nat) (sz : Nat) (kc0 : ClassId) : Met l yJx4a65c_get_915e3 (.code yJx4a65c_get_915e3 cJx4a65c_get_915e3 2 (some (.object "java/lang/Object")) :: wsL_law) ({ frames := 2, cells := 0, slots := 0, locals := 43 }) (va_Pc [.ref h0, .int 0] (PC (dC, dI) [(h0, ce167 h1), (h1, ce146 kc0 o0 o1 o2 o3)] [(kc0, .object "java/lang/Object")] sz z)) (va_Qr (fun (_ : Unit) => True) (fun (_ : Unit) (ra : Nat) (t : State) => ra = o0 ∧ PG (dC, dI) [(h0, ce167 h1), (h1, ce146 kc0 o0 o1 o2 o3)] [(kc0, .object "java/lang/Object")] (va_A [(h0, ce167 h1), (h1, ce146 kc0 o0 o1 o2 o3)] sz) sz 0 t) (va_A [(h0, ce167 h1), (h1, ce146 kc0 o0 o1 o2 o3)] sz)) 0 0 (va_A [(h0, ce167 h1), (h1, ce146 kc0 o0 o1 o2 o3)] sz) := by
  refine Met.ofW (cc := cJx4a65c_get_915e3) (maxL := 2) (ret := (some (.object "java/lang/Object"))) (by decide) rfl ?_
  intro p e s m args below meth c s₁ B hml hv
  obtain ⟨rfl, hsz, hP, hK, hD0, hX, hT⟩ := hv
  have hx := B.exec
  have hb := B.bytes
  have hr := B.returns
  have hts0 := atoms_spec (ws := .code yJx4a65c_get_915e3 cJx4a65c_get_915e3 2 (some (.object "java/lang/Object")) :: wsL_law) B.pre
  have hts := xTail hts0
  have hown : s.vm.findClass RJx4a65c = some m.cls := xown B.named rfl
  have hlocks := B.notSynchronized
  subst hsz
  have hD := hD0.self (sz := s.heap.size)
  generalize hAe : va_A [(h0, ce167 h1), (h1, ce146 kc0 o0 o1 o2 o3)] s.heap.size = A at hD hX ⊢
  have hA : ∀ q : Nat, s.heap.size ≤ q → A q := fun q h => by rw [← hAe]; exact Or.inr h
  have hS : va_S A s.heap s.heap [] := va_S.rf
  have hG : s.heap.size + 0 ≤ s.heap.size := Nat.le_refl _
  have hl := lv_entry ([.ref h0, .int 0]) (n := 2) (Nat.le_of_ble_eq_true rfl)
  rw [lg_entry_eq]
  generalize (lg_sl ([.ref h0, .int 0]) ++ List.replicate (2 - (lg_sl ([.ref h0, .int 0])).length) Slot.unset).toArray = ls at hl ⊢
  have hl : lv_has ls 2 [(0, .ref h0), (1, .int 0)] := hl
  refine lv_iload_n hx hb dJx4a65c_get_915e3_0 rfl (lv_at hl 1 rfl) ?_
  refine lv_aload_n hx hb dJx4a65c_get_915e3_1 rfl (lv_at hl 0 rfl) ?_
  refine va_get (D := (dC, dI)) (ci := 0) (v := .int 4) (C := RJx4a65c) (T := TJx4a65c) (N := 3) hx hb hts in_Jx4a65c hown hK hP 0 rfl rfl 2 (by decide) (hts _ q_74) (fun _ h9 => h9) rfl dJx4a65c_get_915e3_2 ?_
  have hM3 := k258_checkIndex l hl9 dC dI z s.heap.size
  obtain ⟨hF1, hC4⟩ := pc_M hM3 hP hD hK hS hX hT hA [] [] rfl rfl rfl
  refine va_calli (va_runS (As := [.int 0, .int 4]) (rest := []) ⟨hx, hb, hml, hown, hts⟩ hM3 (va_cwS 2 hts (gS q_148 q_149 q_150 q_147) rfl rfl rfl hS_J15_checkIndex_7cf53 ⟨Nat.le_of_ble_eq_true rfl, Nat.le_of_ble_eq_true rfl⟩) ⟨pc_blind, fun U hU hW => ⟨rfl, hC4 U hU hW⟩⟩ rfl rfl hl.1 rfl (lv_room (Nat.le_of_ble_eq_true rfl)) dJx4a65c_get_915e3_5 ⟨(Nat.le_of_ble_eq_true rfl), (Nat.le_of_ble_eq_true rfl)⟩) hS (fun q9 _ h9 => hF1 q9 h9) hF1 (fun r6 u5 t5 H5 L5 ht5 hvm5 hw5 hB5 hz5 hk5 hS => ?_)
  have hP := pq_keep hP hD [] rfl hk5 hB5.1 ht5
  have hG : s.heap.size + 0 ≤ H5.size := Nat.le_trans hG hz5
  refine W.eq (g2 := F0 m 8 ls [.int 0]) (by rw [hw5]) ?_
  refine lv_pop hx hb dJx4a65c_get_915e3_8 rfl ?_
  refine lv_aload_n hx hb dJx4a65c_get_915e3_9 rfl (lv_at hl 0 rfl) ?_
  refine lv_iload_n hx hb dJx4a65c_get_915e3_10 rfl (lv_at hl 1 rfl) ?_
  have hM9 := k285_elementData l hl9 dC dI z h0 h1 o0 o1 o2 o3 H5.size kc0
  obtain ⟨hF7, hC10⟩ := pc_M hM9 hP hD hK hS hX hT hA [0, 1] [0] rfl rfl rfl
  refine va_callr (va_runV (As := [.int 0]) (rest := []) ⟨hx, hb, hml, hown, hts⟩ hM9 (cwV 1 hts (gV q_152 q_153 q_154 q_12 q_151) rfl rfl rfl hV_Jx4a65c_elementData_915e3 ⟨Nat.le_of_ble_eq_true rfl, Nat.le_of_ble_eq_true rfl⟩) ⟨pc_blind, va_recv hK hP (ci := 0) (q := (RJx4a65c, TJx4a65c, 3)) (q0 := 0) rfl rfl, fun U hU hW => ⟨rfl, hC10 U hU hW⟩⟩ rfl rfl hl.1 rfl (lv_room (Nat.le_of_ble_eq_true rfl)) dJx4a65c_get_915e3_11 ⟨(Nat.le_of_ble_eq_true rfl), (Nat.le_of_ble_eq_true rfl)⟩) hS (fun q9 _ h9 => hF7 q9 h9) hF7 (fun u11 r12 t11 H11 L11 ht11 hvm11 hw11 hB11 hz11 hk11 hS => ?_)
  obtain ⟨hr11, hB11⟩ := hB11
  have hP := pq_keep hP hD [0, 1] rfl hk11 hB11.1 ht11
  have hG : s.heap.size + 0 ≤ H11.size := Nat.le_trans hG hz11
  refine W.eq (g2 := F0 m 14 ls [.ref o0]) (by rw [hr11]) ?_
  exact W.aret (v := .ref o0) hx hb hr (by first | exact Or.inl ⟨_, rfl⟩ | exact Or.inr ⟨_, rfl⟩) (Or.inr ⟨_, rfl⟩) (fun t9 ht9 hW9 => ⟨⟨(), o0, rfl, trivial, ⟨rfl, ⟨pq_mk2 hP hD hK [0, 1] [0] rfl rfl rfl ht9 hW9, by rw [ht9]; exact Nat.le_trans (Nat.add_le_add_left (Nat.le_of_ble_eq_true rfl) _) hG⟩⟩⟩, hS.F ht9⟩) hS.2.2 dJx4a65c_get_915e3_14

set_option maxHeartbeats 4000000 in
set_option maxRecDepth 100000 in
theorem k287_elementData (l : Launch) (hl9 : l.stackTraces = false) (dC : Nat → ClassId) (dI : Nat → Nat → Nat) (z : XZ) (h0 h1 : Nat) (o0 o1 o2 o3 : Nat) (sz : Nat) (kc0 : ClassId) : Met l yJx4a65c_elementData_915e3 (.code yJx4a65c_elementData_915e3 cJx4a65c_elementData_915e3 2 (some (.object "java/lang/Object")) :: wsL_law) ({ frames := 0, cells := 0, slots := 0, locals := 0 }) (va_Pc [.ref h0, .int 1] (PC (dC, dI) [(h0, ce167 h1), (h1, ce146 kc0 o0 o1 o2 o3)] [(kc0, .object "java/lang/Object")] sz z)) (va_Qr (fun (_ : Unit) => True) (fun (_ : Unit) (ra : Nat) (t : State) => ra = o1 ∧ PG (dC, dI) [(h0, ce167 h1), (h1, ce146 kc0 o0 o1 o2 o3)] [(kc0, .object "java/lang/Object")] (va_A [(h0, ce167 h1), (h1, ce146 kc0 o0 o1 o2 o3)] sz) sz 0 t) (va_A [(h0, ce167 h1), (h1, ce146 kc0 o0 o1 o2 o3)] sz)) 0 0 (va_A [(h0, ce167 h1), (h1, ce146 kc0 o0 o1 o2 o3)] sz) := by
  refine Met.ofW (cc := cJx4a65c_elementData_915e3) (maxL := 2) (ret := (some (.object "java/lang/Object"))) (by decide) rfl ?_
  intro p e s m args below meth c s₁ B hml hv
  obtain ⟨rfl, hsz, hP, hK, hD0, hX, hT⟩ := hv
  have hx := B.exec
  have hb := B.bytes
  have hr := B.returns
  have hts0 := atoms_spec (ws := .code yJx4a65c_elementData_915e3 cJx4a65c_elementData_915e3 2 (some (.object "java/lang/Object")) :: wsL_law) B.pre
  have hts := xTail hts0
  have hown : s.vm.findClass RJx4a65c = some m.cls := xown B.named rfl
  have hlocks := B.notSynchronized
  subst hsz
  have hD := hD0.self (sz := s.heap.size)
  generalize hAe : va_A [(h0, ce167 h1), (h1, ce146 kc0 o0 o1 o2 o3)] s.heap.size = A at hD hX ⊢
  have hA : ∀ q : Nat, s.heap.size ≤ q → A q := fun q h => by rw [← hAe]; exact Or.inr h
  have hS : va_S A s.heap s.heap [] := va_S.rf
  have hG : s.heap.size + 0 ≤ s.heap.size := Nat.le_refl _
  have hl := lv_entry ([.ref h0, .int 1]) (n := 2) (Nat.le_of_ble_eq_true rfl)
  rw [lg_entry_eq]
  generalize (lg_sl ([.ref h0, .int 1]) ++ List.replicate (2 - (lg_sl ([.ref h0, .int 1])).length) Slot.unset).toArray = ls at hl ⊢
  have hl : lv_has ls 2 [(0, .ref h0), (1, .int 1)] := hl
  refine lv_aload_n hx hb dJx4a65c_elementData_915e3_0 rfl (lv_at hl 0 rfl) ?_
  refine va_get (D := (dC, dI)) (ci := 0) (v := .ref h1) (C := RJx4a65c) (T := TJx4a65c) (N := 3) hx hb hts in_Jx4a65c hown hK hP 0 rfl rfl 1 (by decide) (hts _ q_24) (fun _ h9 => h9) rfl dJx4a65c_elementData_915e3_1 ?_
  refine lv_iload_n hx hb dJx4a65c_elementData_915e3_4 rfl (lv_at hl 1 rfl) ?_
  refine va_aldq hx hb hK hP 1 0 rfl rfl (i := 1) (by unfold vp_in; decide) dJx4a65c_elementData_915e3_5 ?_
  refine W.eq (g2 := F0 m 6 ls [.ref o1]) rfl ?_
  exact W.aret (v := .ref o1) hx hb hr (by first | exact Or.inl ⟨_, rfl⟩ | exact Or.inr ⟨_, rfl⟩) (Or.inr ⟨_, rfl⟩) (fun t9 ht9 hW9 => ⟨⟨(), o1, rfl, trivial, ⟨rfl, ⟨pq_mk2 hP hD hK [0, 1] [0] rfl rfl rfl ht9 hW9, by rw [ht9]; exact Nat.le_trans (Nat.add_le_add_left (Nat.le_of_ble_eq_true rfl) _) hG⟩⟩⟩, hS.F ht9⟩) hS.2.2 dJx4a65c_elementData_915e3_6

set_option maxHeartbeats 4000000 in
set_option maxRecDepth 100000 in
theorem k288_get (l : Launch) (hl9 : l.stackTraces = false) (dC : Nat → ClassId) (dI : Nat → Nat → Nat) (z : XZ) (h0 h1 : Nat) (o0 o1 o2 o3 : Nat) (sz : Nat) (kc0 : ClassId) : Met l yJx4a65c_get_915e3 (.code yJx4a65c_get_915e3 cJx4a65c_get_915e3 2 (some (.object "java/lang/Object")) :: wsL_law) ({ frames := 2, cells := 0, slots := 0, locals := 43 }) (va_Pc [.ref h0, .int 1] (PC (dC, dI) [(h0, ce167 h1), (h1, ce146 kc0 o0 o1 o2 o3)] [(kc0, .object "java/lang/Object")] sz z)) (va_Qr (fun (_ : Unit) => True) (fun (_ : Unit) (ra : Nat) (t : State) => ra = o1 ∧ PG (dC, dI) [(h0, ce167 h1), (h1, ce146 kc0 o0 o1 o2 o3)] [(kc0, .object "java/lang/Object")] (va_A [(h0, ce167 h1), (h1, ce146 kc0 o0 o1 o2 o3)] sz) sz 0 t) (va_A [(h0, ce167 h1), (h1, ce146 kc0 o0 o1 o2 o3)] sz)) 0 0 (va_A [(h0, ce167 h1), (h1, ce146 kc0 o0 o1 o2 o3)] sz) := by
  refine Met.ofW (cc := cJx4a65c_get_915e3) (maxL := 2) (ret := (some (.object "java/lang/Object"))) (by decide) rfl ?_
  intro p e s m args below meth c s₁ B hml hv
  obtain ⟨rfl, hsz, hP, hK, hD0, hX, hT⟩ := hv
  have hx := B.exec
  have hb := B.bytes
  have hr := B.returns
  have hts0 := atoms_spec (ws := .code yJx4a65c_get_915e3 cJx4a65c_get_915e3 2 (some (.object "java/lang/Object")) :: wsL_law) B.pre
  have hts := xTail hts0
  have hown : s.vm.findClass RJx4a65c = some m.cls := xown B.named rfl
  have hlocks := B.notSynchronized
  subst hsz
  have hD := hD0.self (sz := s.heap.size)
  generalize hAe : va_A [(h0, ce167 h1), (h1, ce146 kc0 o0 o1 o2 o3)] s.heap.size = A at hD hX ⊢
  have hA : ∀ q : Nat, s.heap.size ≤ q → A q := fun q h => by rw [← hAe]; exact Or.inr h
  have hS : va_S A s.heap s.heap [] := va_S.rf
  have hG : s.heap.size + 0 ≤ s.heap.size := Nat.le_refl _
  have hl := lv_entry ([.ref h0, .int 1]) (n := 2) (Nat.le_of_ble_eq_true rfl)
  rw [lg_entry_eq]
  generalize (lg_sl ([.ref h0, .int 1]) ++ List.replicate (2 - (lg_sl ([.ref h0, .int 1])).length) Slot.unset).toArray = ls at hl ⊢
  have hl : lv_has ls 2 [(0, .ref h0), (1, .int 1)] := hl
  refine lv_iload_n hx hb dJx4a65c_get_915e3_0 rfl (lv_at hl 1 rfl) ?_
  refine lv_aload_n hx hb dJx4a65c_get_915e3_1 rfl (lv_at hl 0 rfl) ?_
  refine va_get (D := (dC, dI)) (ci := 0) (v := .int 4) (C := RJx4a65c) (T := TJx4a65c) (N := 3) hx hb hts in_Jx4a65c hown hK hP 0 rfl rfl 2 (by decide) (hts _ q_74) (fun _ h9 => h9) rfl dJx4a65c_get_915e3_2 ?_
  have hM3 := k262_checkIndex l hl9 dC dI z s.heap.size
  obtain ⟨hF1, hC4⟩ := pc_M hM3 hP hD hK hS hX hT hA [] [] rfl rfl rfl
  refine va_calli (va_runS (As := [.int 1, .int 4]) (rest := []) ⟨hx, hb, hml, hown, hts⟩ hM3 (va_cwS 2 hts (gS q_148 q_149 q_150 q_147) rfl rfl rfl hS_J15_checkIndex_7cf53 ⟨Nat.le_of_ble_eq_true rfl, Nat.le_of_ble_eq_true rfl⟩) ⟨pc_blind, fun U hU hW => ⟨rfl, hC4 U hU hW⟩⟩ rfl rfl hl.1 rfl (lv_room (Nat.le_of_ble_eq_true rfl)) dJx4a65c_get_915e3_5 ⟨(Nat.le_of_ble_eq_true rfl), (Nat.le_of_ble_eq_true rfl)⟩) hS (fun q9 _ h9 => hF1 q9 h9) hF1 (fun r6 u5 t5 H5 L5 ht5 hvm5 hw5 hB5 hz5 hk5 hS => ?_)
  have hP := pq_keep hP hD [] rfl hk5 hB5.1 ht5
  have hG : s.heap.size + 0 ≤ H5.size := Nat.le_trans hG hz5
  refine W.eq (g2 := F0 m 8 ls [.int 1]) (by rw [hw5]) ?_
  refine lv_pop hx hb dJx4a65c_get_915e3_8 rfl ?_
  refine lv_aload_n hx hb dJx4a65c_get_915e3_9 rfl (lv_at hl 0 rfl) ?_
  refine lv_iload_n hx hb dJx4a65c_get_915e3_10 rfl (lv_at hl 1 rfl) ?_
  have hM9 := k287_elementData l hl9 dC dI z h0 h1 o0 o1 o2 o3 H5.size kc0
  obtain ⟨hF7, hC10⟩ := pc_M hM9 hP hD hK hS hX hT hA [0, 1] [0] rfl rfl rfl
  refine va_callr (va_runV (As := [.int 1]) (rest := []) ⟨hx, hb, hml, hown, hts⟩ hM9 (cwV 1 hts (gV q_152 q_153 q_154 q_12 q_151) rfl rfl rfl hV_Jx4a65c_elementData_915e3 ⟨Nat.le_of_ble_eq_true rfl, Nat.le_of_ble_eq_true rfl⟩) ⟨pc_blind, va_recv hK hP (ci := 0) (q := (RJx4a65c, TJx4a65c, 3)) (q0 := 0) rfl rfl, fun U hU hW => ⟨rfl, hC10 U hU hW⟩⟩ rfl rfl hl.1 rfl (lv_room (Nat.le_of_ble_eq_true rfl)) dJx4a65c_get_915e3_11 ⟨(Nat.le_of_ble_eq_true rfl), (Nat.le_of_ble_eq_true rfl)⟩) hS (fun q9 _ h9 => hF7 q9 h9) hF7 (fun u11 r12 t11 H11 L11 ht11 hvm11 hw11 hB11 hz11 hk11 hS => ?_)
  obtain ⟨hr11, hB11⟩ := hB11
  have hP := pq_keep hP hD [0, 1] rfl hk11 hB11.1 ht11
  have hG : s.heap.size + 0 ≤ H11.size := Nat.le_trans hG hz11
  refine W.eq (g2 := F0 m 14 ls [.ref o1]) (by rw [hr11]) ?_
  exact W.aret (v := .ref o1) hx hb hr (by first | exact Or.inl ⟨_, rfl⟩ | exact Or.inr ⟨_, rfl⟩) (Or.inr ⟨_, rfl⟩) (fun t9 ht9 hW9 => ⟨⟨(), o1, rfl, trivial, ⟨rfl, ⟨pq_mk2 hP hD hK [0, 1] [0] rfl rfl rfl ht9 hW9, by rw [ht9]; exact Nat.le_trans (Nat.add_le_add_left (Nat.le_of_ble_eq_true rfl) _) hG⟩⟩⟩, hS.F ht9⟩) hS.2.2 dJx4a65c_get_915e3_14

set_option maxHeartbeats 4000000 in
set_option maxRecDepth 100000 in
theorem k289_elementData (l : Launch) (hl9 : l.stackTraces = false) (dC : Nat → ClassId) (dI : Nat → Nat → Nat) (z : XZ) (h0 h1 : Nat) (o0 o1 o2 o3 : Nat) (sz : Nat) (kc0 : ClassId) : Met l yJx4a65c_elementData_915e3 (.code yJx4a65c_elementData_915e3 cJx4a65c_elementData_915e3 2 (some (.object "java/lang/Object")) :: wsL_law) ({ frames := 0, cells := 0, slots := 0, locals := 0 }) (va_Pc [.ref h0, .int 2] (PC (dC, dI) [(h0, ce167 h1), (h1, ce146 kc0 o0 o1 o2 o3)] [(kc0, .object "java/lang/Object")] sz z)) (va_Qr (fun (_ : Unit) => True) (fun (_ : Unit) (ra : Nat) (t : State) => ra = o2 ∧ PG (dC, dI) [(h0, ce167 h1), (h1, ce146 kc0 o0 o1 o2 o3)] [(kc0, .object "java/lang/Object")] (va_A [(h0, ce167 h1), (h1, ce146 kc0 o0 o1 o2 o3)] sz) sz 0 t) (va_A [(h0, ce167 h1), (h1, ce146 kc0 o0 o1 o2 o3)] sz)) 0 0 (va_A [(h0, ce167 h1), (h1, ce146 kc0 o0 o1 o2 o3)] sz) := by
  refine Met.ofW (cc := cJx4a65c_elementData_915e3) (maxL := 2) (ret := (some (.object "java/lang/Object"))) (by decide) rfl ?_
  intro p e s m args below meth c s₁ B hml hv
  obtain ⟨rfl, hsz, hP, hK, hD0, hX, hT⟩ := hv
  have hx := B.exec
  have hb := B.bytes
  have hr := B.returns
  have hts0 := atoms_spec (ws := .code yJx4a65c_elementData_915e3 cJx4a65c_elementData_915e3 2 (some (.object "java/lang/Object")) :: wsL_law) B.pre
  have hts := xTail hts0
  have hown : s.vm.findClass RJx4a65c = some m.cls := xown B.named rfl
  have hlocks := B.notSynchronized
  subst hsz
  have hD := hD0.self (sz := s.heap.size)
  generalize hAe : va_A [(h0, ce167 h1), (h1, ce146 kc0 o0 o1 o2 o3)] s.heap.size = A at hD hX ⊢
  have hA : ∀ q : Nat, s.heap.size ≤ q → A q := fun q h => by rw [← hAe]; exact Or.inr h
  have hS : va_S A s.heap s.heap [] := va_S.rf
  have hG : s.heap.size + 0 ≤ s.heap.size := Nat.le_refl _
  have hl := lv_entry ([.ref h0, .int 2]) (n := 2) (Nat.le_of_ble_eq_true rfl)
  rw [lg_entry_eq]
  generalize (lg_sl ([.ref h0, .int 2]) ++ List.replicate (2 - (lg_sl ([.ref h0, .int 2])).length) Slot.unset).toArray = ls at hl ⊢
  have hl : lv_has ls 2 [(0, .ref h0), (1, .int 2)] := hl
  refine lv_aload_n hx hb dJx4a65c_elementData_915e3_0 rfl (lv_at hl 0 rfl) ?_
  refine va_get (D := (dC, dI)) (ci := 0) (v := .ref h1) (C := RJx4a65c) (T := TJx4a65c) (N := 3) hx hb hts in_Jx4a65c hown hK hP 0 rfl rfl 1 (by decide) (hts _ q_24) (fun _ h9 => h9) rfl dJx4a65c_elementData_915e3_1 ?_
  refine lv_iload_n hx hb dJx4a65c_elementData_915e3_4 rfl (lv_at hl 1 rfl) ?_
  refine va_aldq hx hb hK hP 1 0 rfl rfl (i := 2) (by unfold vp_in; decide) dJx4a65c_elementData_915e3_5 ?_
  refine W.eq (g2 := F0 m 6 ls [.ref o2]) rfl ?_
  exact W.aret (v := .ref o2) hx hb hr (by first | exact Or.inl ⟨_, rfl⟩ | exact Or.inr ⟨_, rfl⟩) (Or.inr ⟨_, rfl⟩) (fun t9 ht9 hW9 => ⟨⟨(), o2, rfl, trivial, ⟨rfl, ⟨pq_mk2 hP hD hK [0, 1] [0] rfl rfl rfl ht9 hW9, by rw [ht9]; exact Nat.le_trans (Nat.add_le_add_left (Nat.le_of_ble_eq_true rfl) _) hG⟩⟩⟩, hS.F ht9⟩) hS.2.2 dJx4a65c_elementData_915e3_6

set_option maxHeartbeats 4000000 in
set_option maxRecDepth 100000 in
theorem k290_get (l : Launch) (hl9 : l.stackTraces = false) (dC : Nat → ClassId) (dI : Nat → Nat → Nat) (z : XZ) (h0 h1 : Nat) (o0 o1 o2 o3 : Nat) (sz : Nat) (kc0 : ClassId) : Met l yJx4a65c_get_915e3 (.code yJx4a65c_get_915e3 cJx4a65c_get_915e3 2 (some (.object "java/lang/Object")) :: wsL_law) ({ frames := 2, cells := 0, slots := 0, locals := 43 }) (va_Pc [.ref h0, .int 2] (PC (dC, dI) [(h0, ce167 h1), (h1, ce146 kc0 o0 o1 o2 o3)] [(kc0, .object "java/lang/Object")] sz z)) (va_Qr (fun (_ : Unit) => True) (fun (_ : Unit) (ra : Nat) (t : State) => ra = o2 ∧ PG (dC, dI) [(h0, ce167 h1), (h1, ce146 kc0 o0 o1 o2 o3)] [(kc0, .object "java/lang/Object")] (va_A [(h0, ce167 h1), (h1, ce146 kc0 o0 o1 o2 o3)] sz) sz 0 t) (va_A [(h0, ce167 h1), (h1, ce146 kc0 o0 o1 o2 o3)] sz)) 0 0 (va_A [(h0, ce167 h1), (h1, ce146 kc0 o0 o1 o2 o3)] sz) := by
  refine Met.ofW (cc := cJx4a65c_get_915e3) (maxL := 2) (ret := (some (.object "java/lang/Object"))) (by decide) rfl ?_
  intro p e s m args below meth c s₁ B hml hv
  obtain ⟨rfl, hsz, hP, hK, hD0, hX, hT⟩ := hv
  have hx := B.exec
  have hb := B.bytes
  have hr := B.returns
  have hts0 := atoms_spec (ws := .code yJx4a65c_get_915e3 cJx4a65c_get_915e3 2 (some (.object "java/lang/Object")) :: wsL_law) B.pre
  have hts := xTail hts0
  have hown : s.vm.findClass RJx4a65c = some m.cls := xown B.named rfl
  have hlocks := B.notSynchronized
  subst hsz
  have hD := hD0.self (sz := s.heap.size)
  generalize hAe : va_A [(h0, ce167 h1), (h1, ce146 kc0 o0 o1 o2 o3)] s.heap.size = A at hD hX ⊢
  have hA : ∀ q : Nat, s.heap.size ≤ q → A q := fun q h => by rw [← hAe]; exact Or.inr h
  have hS : va_S A s.heap s.heap [] := va_S.rf
  have hG : s.heap.size + 0 ≤ s.heap.size := Nat.le_refl _
  have hl := lv_entry ([.ref h0, .int 2]) (n := 2) (Nat.le_of_ble_eq_true rfl)
  rw [lg_entry_eq]
  generalize (lg_sl ([.ref h0, .int 2]) ++ List.replicate (2 - (lg_sl ([.ref h0, .int 2])).length) Slot.unset).toArray = ls at hl ⊢
  have hl : lv_has ls 2 [(0, .ref h0), (1, .int 2)] := hl
  refine lv_iload_n hx hb dJx4a65c_get_915e3_0 rfl (lv_at hl 1 rfl) ?_
  refine lv_aload_n hx hb dJx4a65c_get_915e3_1 rfl (lv_at hl 0 rfl) ?_
  refine va_get (D := (dC, dI)) (ci := 0) (v := .int 4) (C := RJx4a65c) (T := TJx4a65c) (N := 3) hx hb hts in_Jx4a65c hown hK hP 0 rfl rfl 2 (by decide) (hts _ q_74) (fun _ h9 => h9) rfl dJx4a65c_get_915e3_2 ?_
  have hM3 := k266_checkIndex l hl9 dC dI z s.heap.size
  obtain ⟨hF1, hC4⟩ := pc_M hM3 hP hD hK hS hX hT hA [] [] rfl rfl rfl
  refine va_calli (va_runS (As := [.int 2, .int 4]) (rest := []) ⟨hx, hb, hml, hown, hts⟩ hM3 (va_cwS 2 hts (gS q_148 q_149 q_150 q_147) rfl rfl rfl hS_J15_checkIndex_7cf53 ⟨Nat.le_of_ble_eq_true rfl, Nat.le_of_ble_eq_true rfl⟩) ⟨pc_blind, fun U hU hW => ⟨rfl, hC4 U hU hW⟩⟩ rfl rfl hl.1 rfl (lv_room (Nat.le_of_ble_eq_true rfl)) dJx4a65c_get_915e3_5 ⟨(Nat.le_of_ble_eq_true rfl), (Nat.le_of_ble_eq_true rfl)⟩) hS (fun q9 _ h9 => hF1 q9 h9) hF1 (fun r6 u5 t5 H5 L5 ht5 hvm5 hw5 hB5 hz5 hk5 hS => ?_)
  have hP := pq_keep hP hD [] rfl hk5 hB5.1 ht5
  have hG : s.heap.size + 0 ≤ H5.size := Nat.le_trans hG hz5
  refine W.eq (g2 := F0 m 8 ls [.int 2]) (by rw [hw5]) ?_
  refine lv_pop hx hb dJx4a65c_get_915e3_8 rfl ?_
  refine lv_aload_n hx hb dJx4a65c_get_915e3_9 rfl (lv_at hl 0 rfl) ?_
  refine lv_iload_n hx hb dJx4a65c_get_915e3_10 rfl (lv_at hl 1 rfl) ?_
  have hM9 := k289_elementData l hl9 dC dI z h0 h1 o0 o1 o2 o3 H5.size kc0
  obtain ⟨hF7, hC10⟩ := pc_M hM9 hP hD hK hS hX hT hA [0, 1] [0] rfl rfl rfl
  refine va_callr (va_runV (As := [.int 2]) (rest := []) ⟨hx, hb, hml, hown, hts⟩ hM9 (cwV 1 hts (gV q_152 q_153 q_154 q_12 q_151) rfl rfl rfl hV_Jx4a65c_elementData_915e3 ⟨Nat.le_of_ble_eq_true rfl, Nat.le_of_ble_eq_true rfl⟩) ⟨pc_blind, va_recv hK hP (ci := 0) (q := (RJx4a65c, TJx4a65c, 3)) (q0 := 0) rfl rfl, fun U hU hW => ⟨rfl, hC10 U hU hW⟩⟩ rfl rfl hl.1 rfl (lv_room (Nat.le_of_ble_eq_true rfl)) dJx4a65c_get_915e3_11 ⟨(Nat.le_of_ble_eq_true rfl), (Nat.le_of_ble_eq_true rfl)⟩) hS (fun q9 _ h9 => hF7 q9 h9) hF7 (fun u11 r12 t11 H11 L11 ht11 hvm11 hw11 hB11 hz11 hk11 hS => ?_)
  obtain ⟨hr11, hB11⟩ := hB11
  have hP := pq_keep hP hD [0, 1] rfl hk11 hB11.1 ht11
  have hG : s.heap.size + 0 ≤ H11.size := Nat.le_trans hG hz11
  refine W.eq (g2 := F0 m 14 ls [.ref o2]) (by rw [hr11]) ?_
  exact W.aret (v := .ref o2) hx hb hr (by first | exact Or.inl ⟨_, rfl⟩ | exact Or.inr ⟨_, rfl⟩) (Or.inr ⟨_, rfl⟩) (fun t9 ht9 hW9 => ⟨⟨(), o2, rfl, trivial, ⟨rfl, ⟨pq_mk2 hP hD hK [0, 1] [0] rfl rfl rfl ht9 hW9, by rw [ht9]; exact Nat.le_trans (Nat.add_le_add_left (Nat.le_of_ble_eq_true rfl) _) hG⟩⟩⟩, hS.F ht9⟩) hS.2.2 dJx4a65c_get_915e3_14

set_option maxHeartbeats 4000000 in
set_option maxRecDepth 100000 in
theorem k291_elementData (l : Launch) (hl9 : l.stackTraces = false) (dC : Nat → ClassId) (dI : Nat → Nat → Nat) (z : XZ) (h0 h1 : Nat) (o0 o1 o2 o3 : Nat) (sz : Nat) (kc0 : ClassId) : Met l yJx4a65c_elementData_915e3 (.code yJx4a65c_elementData_915e3 cJx4a65c_elementData_915e3 2 (some (.object "java/lang/Object")) :: wsL_law) ({ frames := 0, cells := 0, slots := 0, locals := 0 }) (va_Pc [.ref h0, .int 3] (PC (dC, dI) [(h0, ce167 h1), (h1, ce146 kc0 o0 o1 o2 o3)] [(kc0, .object "java/lang/Object")] sz z)) (va_Qr (fun (_ : Unit) => True) (fun (_ : Unit) (ra : Nat) (t : State) => ra = o3 ∧ PG (dC, dI) [(h0, ce167 h1), (h1, ce146 kc0 o0 o1 o2 o3)] [(kc0, .object "java/lang/Object")] (va_A [(h0, ce167 h1), (h1, ce146 kc0 o0 o1 o2 o3)] sz) sz 0 t) (va_A [(h0, ce167 h1), (h1, ce146 kc0 o0 o1 o2 o3)] sz)) 0 0 (va_A [(h0, ce167 h1), (h1, ce146 kc0 o0 o1 o2 o3)] sz) := by
  refine Met.ofW (cc := cJx4a65c_elementData_915e3) (maxL := 2) (ret := (some (.object "java/lang/Object"))) (by decide) rfl ?_
  intro p e s m args below meth c s₁ B hml hv
  obtain ⟨rfl, hsz, hP, hK, hD0, hX, hT⟩ := hv
  have hx := B.exec
  have hb := B.bytes
  have hr := B.returns
  have hts0 := atoms_spec (ws := .code yJx4a65c_elementData_915e3 cJx4a65c_elementData_915e3 2 (some (.object "java/lang/Object")) :: wsL_law) B.pre
  have hts := xTail hts0
  have hown : s.vm.findClass RJx4a65c = some m.cls := xown B.named rfl
  have hlocks := B.notSynchronized
  subst hsz
  have hD := hD0.self (sz := s.heap.size)
  generalize hAe : va_A [(h0, ce167 h1), (h1, ce146 kc0 o0 o1 o2 o3)] s.heap.size = A at hD hX ⊢
  have hA : ∀ q : Nat, s.heap.size ≤ q → A q := fun q h => by rw [← hAe]; exact Or.inr h
  have hS : va_S A s.heap s.heap [] := va_S.rf
  have hG : s.heap.size + 0 ≤ s.heap.size := Nat.le_refl _
  have hl := lv_entry ([.ref h0, .int 3]) (n := 2) (Nat.le_of_ble_eq_true rfl)
  rw [lg_entry_eq]
  generalize (lg_sl ([.ref h0, .int 3]) ++ List.replicate (2 - (lg_sl ([.ref h0, .int 3])).length) Slot.unset).toArray = ls at hl ⊢
  have hl : lv_has ls 2 [(0, .ref h0), (1, .int 3)] := hl
  refine lv_aload_n hx hb dJx4a65c_elementData_915e3_0 rfl (lv_at hl 0 rfl) ?_
  refine va_get (D := (dC, dI)) (ci := 0) (v := .ref h1) (C := RJx4a65c) (T := TJx4a65c) (N := 3) hx hb hts in_Jx4a65c hown hK hP 0 rfl rfl 1 (by decide) (hts _ q_24) (fun _ h9 => h9) rfl dJx4a65c_elementData_915e3_1 ?_
  refine lv_iload_n hx hb dJx4a65c_elementData_915e3_4 rfl (lv_at hl 1 rfl) ?_
  refine va_aldq hx hb hK hP 1 0 rfl rfl (i := 3) (by unfold vp_in; decide) dJx4a65c_elementData_915e3_5 ?_
  refine W.eq (g2 := F0 m 6 ls [.ref o3]) rfl ?_
  exact W.aret (v := .ref o3) hx hb hr (by first | exact Or.inl ⟨_, rfl⟩ | exact Or.inr ⟨_, rfl⟩) (Or.inr ⟨_, rfl⟩) (fun t9 ht9 hW9 => ⟨⟨(), o3, rfl, trivial, ⟨rfl, ⟨pq_mk2 hP hD hK [0, 1] [0] rfl rfl rfl ht9 hW9, by rw [ht9]; exact Nat.le_trans (Nat.add_le_add_left (Nat.le_of_ble_eq_true rfl) _) hG⟩⟩⟩, hS.F ht9⟩) hS.2.2 dJx4a65c_elementData_915e3_6

set_option maxHeartbeats 4000000 in
set_option maxRecDepth 100000 in
theorem k292_get (l : Launch) (hl9 : l.stackTraces = false) (dC : Nat → ClassId) (dI : Nat → Nat → Nat) (z : XZ) (h0 h1 : Nat) (o0 o1 o2 o3 : Nat) (sz : Nat) (kc0 : ClassId) : Met l yJx4a65c_get_915e3 (.code yJx4a65c_get_915e3 cJx4a65c_get_915e3 2 (some (.object "java/lang/Object")) :: wsL_law) ({ frames := 2, cells := 0, slots := 0, locals := 43 }) (va_Pc [.ref h0, .int 3] (PC (dC, dI) [(h0, ce167 h1), (h1, ce146 kc0 o0 o1 o2 o3)] [(kc0, .object "java/lang/Object")] sz z)) (va_Qr (fun (_ : Unit) => True) (fun (_ : Unit) (ra : Nat) (t : State) => ra = o3 ∧ PG (dC, dI) [(h0, ce167 h1), (h1, ce146 kc0 o0 o1 o2 o3)] [(kc0, .object "java/lang/Object")] (va_A [(h0, ce167 h1), (h1, ce146 kc0 o0 o1 o2 o3)] sz) sz 0 t) (va_A [(h0, ce167 h1), (h1, ce146 kc0 o0 o1 o2 o3)] sz)) 0 0 (va_A [(h0, ce167 h1), (h1, ce146 kc0 o0 o1 o2 o3)] sz) := by
  refine Met.ofW (cc := cJx4a65c_get_915e3) (maxL := 2) (ret := (some (.object "java/lang/Object"))) (by decide) rfl ?_
  intro p e s m args below meth c s₁ B hml hv
  obtain ⟨rfl, hsz, hP, hK, hD0, hX, hT⟩ := hv
  have hx := B.exec
  have hb := B.bytes
  have hr := B.returns
  have hts0 := atoms_spec (ws := .code yJx4a65c_get_915e3 cJx4a65c_get_915e3 2 (some (.object "java/lang/Object")) :: wsL_law) B.pre
  have hts := xTail hts0
  have hown : s.vm.findClass RJx4a65c = some m.cls := xown B.named rfl
  have hlocks := B.notSynchronized
  subst hsz
  have hD := hD0.self (sz := s.heap.size)
  generalize hAe : va_A [(h0, ce167 h1), (h1, ce146 kc0 o0 o1 o2 o3)] s.heap.size = A at hD hX ⊢
  have hA : ∀ q : Nat, s.heap.size ≤ q → A q := fun q h => by rw [← hAe]; exact Or.inr h
  have hS : va_S A s.heap s.heap [] := va_S.rf
  have hG : s.heap.size + 0 ≤ s.heap.size := Nat.le_refl _
  have hl := lv_entry ([.ref h0, .int 3]) (n := 2) (Nat.le_of_ble_eq_true rfl)
  rw [lg_entry_eq]
  generalize (lg_sl ([.ref h0, .int 3]) ++ List.replicate (2 - (lg_sl ([.ref h0, .int 3])).length) Slot.unset).toArray = ls at hl ⊢
  have hl : lv_has ls 2 [(0, .ref h0), (1, .int 3)] := hl
  refine lv_iload_n hx hb dJx4a65c_get_915e3_0 rfl (lv_at hl 1 rfl) ?_
  refine lv_aload_n hx hb dJx4a65c_get_915e3_1 rfl (lv_at hl 0 rfl) ?_
  refine va_get (D := (dC, dI)) (ci := 0) (v := .int 4) (C := RJx4a65c) (T := TJx4a65c) (N := 3) hx hb hts in_Jx4a65c hown hK hP 0 rfl rfl 2 (by decide) (hts _ q_74) (fun _ h9 => h9) rfl dJx4a65c_get_915e3_2 ?_
  have hM3 := k270_checkIndex l hl9 dC dI z s.heap.size
  obtain ⟨hF1, hC4⟩ := pc_M hM3 hP hD hK hS hX hT hA [] [] rfl rfl rfl
  refine va_calli (va_runS (As := [.int 3, .int 4]) (rest := []) ⟨hx, hb, hml, hown, hts⟩ hM3 (va_cwS 2 hts (gS q_148 q_149 q_150 q_147) rfl rfl rfl hS_J15_checkIndex_7cf53 ⟨Nat.le_of_ble_eq_true rfl, Nat.le_of_ble_eq_true rfl⟩) ⟨pc_blind, fun U hU hW => ⟨rfl, hC4 U hU hW⟩⟩ rfl rfl hl.1 rfl (lv_room (Nat.le_of_ble_eq_true rfl)) dJx4a65c_get_915e3_5 ⟨(Nat.le_of_ble_eq_true rfl), (Nat.le_of_ble_eq_true rfl)⟩) hS (fun q9 _ h9 => hF1 q9 h9) hF1 (fun r6 u5 t5 H5 L5 ht5 hvm5 hw5 hB5 hz5 hk5 hS => ?_)
  have hP := pq_keep hP hD [] rfl hk5 hB5.1 ht5
  have hG : s.heap.size + 0 ≤ H5.size := Nat.le_trans hG hz5
  refine W.eq (g2 := F0 m 8 ls [.int 3]) (by rw [hw5]) ?_
  refine lv_pop hx hb dJx4a65c_get_915e3_8 rfl ?_
  refine lv_aload_n hx hb dJx4a65c_get_915e3_9 rfl (lv_at hl 0 rfl) ?_
  refine lv_iload_n hx hb dJx4a65c_get_915e3_10 rfl (lv_at hl 1 rfl) ?_
  have hM9 := k291_elementData l hl9 dC dI z h0 h1 o0 o1 o2 o3 H5.size kc0
  obtain ⟨hF7, hC10⟩ := pc_M hM9 hP hD hK hS hX hT hA [0, 1] [0] rfl rfl rfl
  refine va_callr (va_runV (As := [.int 3]) (rest := []) ⟨hx, hb, hml, hown, hts⟩ hM9 (cwV 1 hts (gV q_152 q_153 q_154 q_12 q_151) rfl rfl rfl hV_Jx4a65c_elementData_915e3 ⟨Nat.le_of_ble_eq_true rfl, Nat.le_of_ble_eq_true rfl⟩) ⟨pc_blind, va_recv hK hP (ci := 0) (q := (RJx4a65c, TJx4a65c, 3)) (q0 := 0) rfl rfl, fun U hU hW => ⟨rfl, hC10 U hU hW⟩⟩ rfl rfl hl.1 rfl (lv_room (Nat.le_of_ble_eq_true rfl)) dJx4a65c_get_915e3_11 ⟨(Nat.le_of_ble_eq_true rfl), (Nat.le_of_ble_eq_true rfl)⟩) hS (fun q9 _ h9 => hF7 q9 h9) hF7 (fun u11 r12 t11 H11 L11 ht11 hvm11 hw11 hB11 hz11 hk11 hS => ?_)
  obtain ⟨hr11, hB11⟩ := hB11
  have hP := pq_keep hP hD [0, 1] rfl hk11 hB11.1 ht11
  have hG : s.heap.size + 0 ≤ H11.size := Nat.le_trans hG hz11
  refine W.eq (g2 := F0 m 14 ls [.ref o3]) (by rw [hr11]) ?_
  exact W.aret (v := .ref o3) hx hb hr (by first | exact Or.inl ⟨_, rfl⟩ | exact Or.inr ⟨_, rfl⟩) (Or.inr ⟨_, rfl⟩) (fun t9 ht9 hW9 => ⟨⟨(), o3, rfl, trivial, ⟨rfl, ⟨pq_mk2 hP hD hK [0, 1] [0] rfl rfl rfl ht9 hW9, by rw [ht9]; exact Nat.le_trans (Nat.add_le_add_left (Nat.le_of_ble_eq_true rfl) _) hG⟩⟩⟩, hS.F ht9⟩) hS.2.2 dJx4a65c_get_915e3_14

set_option maxHeartbeats 4000000 in
set_option maxRecDepth 100000 in
theorem k293_latestArrival (l : Launch) (hl9 : l.stackTraces = false) (dC : Nat → ClassId) (dI : Nat → Nat → Nat) (z : XZ) (h0 h1 : Nat) (sz : Nat) : Met l yX2_latestArrival (.code yX2_latestArrival cX2_latestArrival 4 (some .int) :: wsL_law) ({ frames := 1, cells := 0, slots := 0, locals := 20 }) (va_Pc [.ref h0] (PC (dC, dI) [(h0, ce165 (z.2.1 0) h1 h0), (h1, ce3 z.1)] [] sz z)) (va_Qi (fun (r : Int32) (_ : Unit) => r = 0) (fun (_ : Unit) (t : State) => PG (dC, dI) [(h0, ce165 (z.2.1 0) h1 h0), (h1, ce3 z.1)] [] (va_A [(h0, ce165 (z.2.1 0) h1 h0), (h1, ce3 z.1)] sz) sz 0 t) (va_A [(h0, ce165 (z.2.1 0) h1 h0), (h1, ce3 z.1)] sz)) 0 0 (va_A [(h0, ce165 (z.2.1 0) h1 h0), (h1, ce3 z.1)] sz) := by
  refine Met.ofW (cc := cX2_latestArrival) (maxL := 4) (ret := (some .int)) (by decide) rfl ?_
  intro p e s m args below meth c s₁ B hml hv
  obtain ⟨rfl, hsz, hP, hK, hD0, hX, hT⟩ := hv
  have hx := B.exec
  have hb := B.bytes
  have hr := B.returns
  have hts0 := atoms_spec (ws := .code yX2_latestArrival cX2_latestArrival 4 (some .int) :: wsL_law) B.pre
  have hts := xTail hts0
  have hown : s.vm.findClass RX2 = some m.cls := xown B.named rfl
  have hlocks := B.notSynchronized
  subst hsz
  have hD := hD0.self (sz := s.heap.size)
  generalize hAe : va_A [(h0, ce165 (z.2.1 0) h1 h0), (h1, ce3 z.1)] s.heap.size = A at hD hX ⊢
  have hA : ∀ q : Nat, s.heap.size ≤ q → A q := fun q h => by rw [← hAe]; exact Or.inr h
  have hS : va_S A s.heap s.heap [] := va_S.rf
  have hG : s.heap.size + 0 ≤ s.heap.size := Nat.le_refl _
  have hl := lv_entry ([.ref h0]) (n := 4) (Nat.le_of_ble_eq_true rfl)
  rw [lg_entry_eq]
  generalize (lg_sl ([.ref h0]) ++ List.replicate (4 - (lg_sl ([.ref h0])).length) Slot.unset).toArray = ls at hl ⊢
  have hl : lv_has ls 4 [(0, .ref h0)] := hl
  refine lv_iconst (v := 0) hx hb dX2_latestArrival_0 (by decide) ?_
  refine lv_istore_n (lv' := [(1, .int 0), (0, .ref h0)]) hx hb dX2_latestArrival_1 rfl hl (by decide) rfl (fun ls hl => ?_)
  refine lv_iconst (v := 0) hx hb dX2_latestArrival_2 (by decide) ?_
  refine lv_istore_n (lv' := [(2, .int 0), (1, .int 0), (0, .ref h0)]) hx hb dX2_latestArrival_3 rfl hl (by decide) rfl (fun ls hl => ?_)
  refine lv_iload_n hx hb dX2_latestArrival_4 rfl (lv_at hl 0 rfl) ?_
  refine lv_aload_n hx hb dX2_latestArrival_5 rfl (lv_at hl 2 rfl) ?_
  refine va_get (D := (dC, dI)) (ci := 3) (v := .ref h1) (C := RX2) (T := TX2) (N := 19) hx hb hts in_X2 hown hK hP 0 rfl rfl 2 (by decide) (hts _ q_96) (fun _ h9 => h9) rfl dX2_latestArrival_6 ?_
  have hM3 := k9_size l hl9 dC dI z h1 s.heap.size 0 0
  obtain ⟨hF1, hC4⟩ := pc_M hM3 hP hD hK hS hX hT hA [1] [] rfl rfl rfl
  refine va_calli (va_runV (As := []) (rest := [.int 0]) ⟨hx, hb, hml, hown, hts⟩ hM3 (cwV 0 hts (gV q_160 q_77 q_78 q_12 q_75) rfl rfl rfl hV_Jx4a65c_size_8abf5 ⟨Nat.le_of_ble_eq_true rfl, Nat.le_of_ble_eq_true rfl⟩) ⟨pc_blind, va_recv hK hP (ci := 0) (q := (RJx4a65c, TJx4a65c, 3)) (q0 := 1) rfl rfl, fun U hU hW => ⟨rfl, hC4 U hU hW⟩⟩ rfl rfl hl.1 rfl (lv_room (Nat.le_of_ble_eq_true rfl)) dX2_latestArrival_9 ⟨(Nat.le_of_ble_eq_true rfl), (Nat.le_of_ble_eq_true rfl)⟩) hS (fun q9 _ h9 => hF1 q9 h9) hF1 (fun r6 u5 t5 H5 L5 ht5 hvm5 hw5 hB5 hz5 hk5 hS => ?_)
  have hP := pq_keep hP hD [1] rfl hk5 hB5.1 ht5
  have hG : s.heap.size + 0 ≤ H5.size := Nat.le_trans hG hz5
  refine W.eq (g2 := F0 m 12 ls [.int 0, .int 0]) (by rw [hw5]) ?_
  refine lv_icmp_ge (tgt := 60) hx hb dX2_latestArrival_12 (by decide) (fun _ => ?_) (fun cz => absurd (by decide) cz)
  refine lv_iload_n hx hb dX2_latestArrival_60 rfl (lv_at hl 1 rfl) ?_
  exact W.iret (v := 0) hx hb hr (fun t9 ht9 hW9 => ⟨⟨0, (), rfl, rfl, ⟨pq_mk2 hP hD hK [0, 1] [] rfl rfl rfl ht9 hW9, by rw [ht9]; exact Nat.le_trans (Nat.add_le_add_left (Nat.le_of_ble_eq_true rfl) _) hG⟩⟩, hS.F ht9⟩) hS.2.2 dX2_latestArrival_61

set_option maxHeartbeats 4000000 in
set_option maxRecDepth 100000 in
theorem k294_lengthenWaysOfRead (l : Launch) (hl9 : l.stackTraces = false) (dC : Nat → ClassId) (dI : Nat → Nat → Nat) (z : XZ) (h0 h1 : Nat) (sz : Nat) : Met l yX2_lengthenWaysOfRead (.code yX2_lengthenWaysOfRead cX2_lengthenWaysOfRead 4 none :: wsL_law) ({ frames := 1, cells := 0, slots := 0, locals := 20 }) (va_Pc [.ref h0] (PC (dC, dI) [(h0, ce165 (z.2.1 0) h1 h0), (h1, ce3 z.1)] [] sz z)) (va_Qv (fun (_ : Unit) => True) (fun (_ : Unit) (t : State) => PG (dC, dI) [(h0, ce165 (z.2.1 0) h1 h0), (h1, ce3 z.1)] [] (va_A [(h0, ce165 (z.2.1 0) h1 h0), (h1, ce3 z.1)] sz) sz 0 t) (va_A [(h0, ce165 (z.2.1 0) h1 h0), (h1, ce3 z.1)] sz)) 0 0 (va_A [(h0, ce165 (z.2.1 0) h1 h0), (h1, ce3 z.1)] sz) := by
  refine Met.ofW (cc := cX2_lengthenWaysOfRead) (maxL := 4) (ret := none) (by decide) rfl ?_
  intro p e s m args below meth c s₁ B hml hv
  obtain ⟨rfl, hsz, hP, hK, hD0, hX, hT⟩ := hv
  have hx := B.exec
  have hb := B.bytes
  have hr := B.returns
  have hts0 := atoms_spec (ws := .code yX2_lengthenWaysOfRead cX2_lengthenWaysOfRead 4 none :: wsL_law) B.pre
  have hts := xTail hts0
  have hown : s.vm.findClass RX2 = some m.cls := xown B.named rfl
  have hlocks := B.notSynchronized
  subst hsz
  have hD := hD0.self (sz := s.heap.size)
  generalize hAe : va_A [(h0, ce165 (z.2.1 0) h1 h0), (h1, ce3 z.1)] s.heap.size = A at hD hX ⊢
  have hA : ∀ q : Nat, s.heap.size ≤ q → A q := fun q h => by rw [← hAe]; exact Or.inr h
  have hS : va_S A s.heap s.heap [] := va_S.rf
  have hG : s.heap.size + 0 ≤ s.heap.size := Nat.le_refl _
  have hl := lv_entry ([.ref h0]) (n := 4) (Nat.le_of_ble_eq_true rfl)
  rw [lg_entry_eq]
  generalize (lg_sl ([.ref h0]) ++ List.replicate (4 - (lg_sl ([.ref h0])).length) Slot.unset).toArray = ls at hl ⊢
  have hl : lv_has ls 4 [(0, .ref h0)] := hl
  refine lv_iconst (v := 0) hx hb dX2_lengthenWaysOfRead_0 (by decide) ?_
  refine lv_istore_n (lv' := [(1, .int 0), (0, .ref h0)]) hx hb dX2_lengthenWaysOfRead_1 rfl hl (by decide) rfl (fun ls hl => ?_)
  refine lv_iload_n hx hb dX2_lengthenWaysOfRead_2 rfl (lv_at hl 0 rfl) ?_
  refine lv_aload_n hx hb dX2_lengthenWaysOfRead_3 rfl (lv_at hl 1 rfl) ?_
  refine va_get (D := (dC, dI)) (ci := 3) (v := .ref h1) (C := RX2) (T := TX2) (N := 19) hx hb hts in_X2 hown hK hP 0 rfl rfl 2 (by decide) (hts _ q_96) (fun _ h9 => h9) rfl dX2_lengthenWaysOfRead_4 ?_
  have hM3 := k9_size l hl9 dC dI z h1 s.heap.size 0 0
  obtain ⟨hF1, hC4⟩ := pc_M hM3 hP hD hK hS hX hT hA [1] [] rfl rfl rfl
  refine va_calli (va_runV (As := []) (rest := [.int 0]) ⟨hx, hb, hml, hown, hts⟩ hM3 (cwV 0 hts (gV q_160 q_77 q_78 q_12 q_75) rfl rfl rfl hV_Jx4a65c_size_8abf5 ⟨Nat.le_of_ble_eq_true rfl, Nat.le_of_ble_eq_true rfl⟩) ⟨pc_blind, va_recv hK hP (ci := 0) (q := (RJx4a65c, TJx4a65c, 3)) (q0 := 1) rfl rfl, fun U hU hW => ⟨rfl, hC4 U hU hW⟩⟩ rfl rfl hl.1 rfl (lv_room (Nat.le_of_ble_eq_true rfl)) dX2_lengthenWaysOfRead_7 ⟨(Nat.le_of_ble_eq_true rfl), (Nat.le_of_ble_eq_true rfl)⟩) hS (fun q9 _ h9 => hF1 q9 h9) hF1 (fun r6 u5 t5 H5 L5 ht5 hvm5 hw5 hB5 hz5 hk5 hS => ?_)
  have hP := pq_keep hP hD [1] rfl hk5 hB5.1 ht5
  have hG : s.heap.size + 0 ≤ H5.size := Nat.le_trans hG hz5
  refine W.eq (g2 := F0 m 10 ls [.int 0, .int 0]) (by rw [hw5]) ?_
  refine lv_icmp_ge (tgt := 77) hx hb dX2_lengthenWaysOfRead_10 (by decide) (fun _ => ?_) (fun cz => absurd (by decide) cz)
  exact W.vret hx hb hr (fun t9 ht9 hW9 => ⟨⟨(), rfl, trivial, ⟨pq_mk2 hP hD hK [0, 1] [] rfl rfl rfl ht9 hW9, by rw [ht9]; exact Nat.le_trans (Nat.add_le_add_left (Nat.le_of_ble_eq_true rfl) _) hG⟩⟩, hS.F ht9⟩) hS.2.2 dX2_lengthenWaysOfRead_77

set_option maxHeartbeats 4000000 in
set_option maxRecDepth 100000 in
theorem k295_reckonDelays (l : Launch) (hl9 : l.stackTraces = false) (dC : Nat → ClassId) (dI : Nat → Nat → Nat) (z : XZ) (h0 h1 h2 h3 h4 h5 h6 h7 h8 h9 h10 : Nat) (o0 o1 o2 : Nat) (sz : Nat) (kc0 : ClassId) : Met l yX0_reckonDelays (.code yX0_reckonDelays cX0_reckonDelays 3 none :: wsL_law) ({ frames := 3, cells := 0, slots := 0, locals := 64 }) (va_Pc [.ref h0] (PC (dC, dI) [(h0, ce7 o0 o1 o2 h1), (h1, ce167 h2), (h2, ce146 kc0 h3 h4 h5 h6), (h3, ce38 (z.2.1 0) h7 h3), (h4, ce77 (z.2.1 0) h8 h4), (h5, ce115 (z.2.1 0) h9 h5), (h6, ce165 (z.2.1 0) h10 h6), (h7, ce3 z.1), (h8, ce3 z.1), (h9, ce3 z.1), (h10, ce3 z.1)] [(kc0, .object "java/lang/Object")] sz z)) (va_Qv (fun (_ : Unit) => True) (fun (_ : Unit) (t : State) => PG (dC, dI) [(h0, ce7 o0 o1 o2 h1), (h1, ce167 h2), (h2, ce146 kc0 h3 h4 h5 h6), (h3, ce38 (z.2.1 0) h7 h3), (h4, ce77 (z.2.1 0) h8 h4), (h5, ce115 (z.2.1 0) h9 h5), (h6, ce165 (z.2.1 0) h10 h6), (h7, ce3 z.1), (h8, ce3 z.1), (h9, ce3 z.1), (h10, ce3 z.1)] [(kc0, .object "java/lang/Object")] (va_A [(h0, ce7 o0 o1 o2 h1), (h1, ce167 h2), (h2, ce146 kc0 h3 h4 h5 h6), (h3, ce38 (z.2.1 0) h7 h3), (h4, ce77 (z.2.1 0) h8 h4), (h5, ce115 (z.2.1 0) h9 h5), (h6, ce165 (z.2.1 0) h10 h6), (h7, ce3 z.1), (h8, ce3 z.1), (h9, ce3 z.1), (h10, ce3 z.1)] sz) sz 0 t) (va_A [(h0, ce7 o0 o1 o2 h1), (h1, ce167 h2), (h2, ce146 kc0 h3 h4 h5 h6), (h3, ce38 (z.2.1 0) h7 h3), (h4, ce77 (z.2.1 0) h8 h4), (h5, ce115 (z.2.1 0) h9 h5), (h6, ce165 (z.2.1 0) h10 h6), (h7, ce3 z.1), (h8, ce3 z.1), (h9, ce3 z.1), (h10, ce3 z.1)] sz)) 0 0 (va_A [(h0, ce7 o0 o1 o2 h1), (h1, ce167 h2), (h2, ce146 kc0 h3 h4 h5 h6), (h3, ce38 (z.2.1 0) h7 h3), (h4, ce77 (z.2.1 0) h8 h4), (h5, ce115 (z.2.1 0) h9 h5), (h6, ce165 (z.2.1 0) h10 h6), (h7, ce3 z.1), (h8, ce3 z.1), (h9, ce3 z.1), (h10, ce3 z.1)] sz) := by
  refine Met.ofW (cc := cX0_reckonDelays) (maxL := 3) (ret := none) (by decide) rfl ?_
  intro p e s m args below meth c s₁ B hml hv
  obtain ⟨rfl, hsz, hP, hK, hD0, hX, hT⟩ := hv
  have hx := B.exec
  have hb := B.bytes
  have hr := B.returns
  have hts0 := atoms_spec (ws := .code yX0_reckonDelays cX0_reckonDelays 3 none :: wsL_law) B.pre
  have hts := xTail hts0
  have hown : s.vm.findClass RX0 = some m.cls := xown B.named rfl
  have hlocks := B.notSynchronized
  subst hsz
  have hD := hD0.self (sz := s.heap.size)
  generalize hAe : va_A [(h0, ce7 o0 o1 o2 h1), (h1, ce167 h2), (h2, ce146 kc0 h3 h4 h5 h6), (h3, ce38 (z.2.1 0) h7 h3), (h4, ce77 (z.2.1 0) h8 h4), (h5, ce115 (z.2.1 0) h9 h5), (h6, ce165 (z.2.1 0) h10 h6), (h7, ce3 z.1), (h8, ce3 z.1), (h9, ce3 z.1), (h10, ce3 z.1)] s.heap.size = A at hD hX ⊢
  have hA : ∀ q : Nat, s.heap.size ≤ q → A q := fun q h => by rw [← hAe]; exact Or.inr h
  have hS : va_S A s.heap s.heap [] := va_S.rf
  have hG : s.heap.size + 0 ≤ s.heap.size := Nat.le_refl _
  have hl := lv_entry ([.ref h0]) (n := 3) (Nat.le_of_ble_eq_true rfl)
  rw [lg_entry_eq]
  generalize (lg_sl ([.ref h0]) ++ List.replicate (3 - (lg_sl ([.ref h0])).length) Slot.unset).toArray = ls at hl ⊢
  have hl : lv_has ls 3 [(0, .ref h0)] := hl
  refine lv_iconst (v := 0) hx hb dX0_reckonDelays_0 (by decide) ?_
  refine lv_istore_n (lv' := [(1, .int 0), (0, .ref h0)]) hx hb dX0_reckonDelays_1 rfl hl (by decide) rfl (fun ls hl => ?_)
  refine lv_iload_n hx hb dX0_reckonDelays_2 rfl (lv_at hl 0 rfl) ?_
  refine lv_aload_n hx hb dX0_reckonDelays_3 rfl (lv_at hl 1 rfl) ?_
  refine va_get (D := (dC, dI)) (ci := 2) (v := .ref h1) (C := RX0) (T := TX0) (N := 4) hx hb hts in_X0 hown hK hP 0 rfl rfl 3 (by decide) (hts _ q_31) (fun _ h9 => h9) rfl dX0_reckonDelays_4 ?_
  have hM3 := k20_size l hl9 dC dI z h1 h2 s.heap.size 14 4
  obtain ⟨hF1, hC4⟩ := pc_M hM3 hP hD hK hS hX hT hA [1] [] rfl rfl rfl
  refine va_calli (va_runV (As := []) (rest := [.int 0]) ⟨hx, hb, hml, hown, hts⟩ hM3 (cwV 0 hts (gV q_92 q_77 q_78 q_12 q_75) rfl rfl rfl hV_Jx4a65c_size_8abf5 ⟨Nat.le_of_ble_eq_true rfl, Nat.le_of_ble_eq_true rfl⟩) ⟨pc_blind, va_recv hK hP (ci := 0) (q := (RJx4a65c, TJx4a65c, 3)) (q0 := 1) rfl rfl, fun U hU hW => ⟨rfl, hC4 U hU hW⟩⟩ rfl rfl hl.1 rfl (lv_room (Nat.le_of_ble_eq_true rfl)) dX0_reckonDelays_7 ⟨(Nat.le_of_ble_eq_true rfl), (Nat.le_of_ble_eq_true rfl)⟩) hS (fun q9 _ h9 => hF1 q9 h9) hF1 (fun r6 u5 t5 H5 L5 ht5 hvm5 hw5 hB5 hz5 hk5 hS => ?_)
  have hP := pq_keep hP hD [1] rfl hk5 hB5.1 ht5
  have hG : s.heap.size + 0 ≤ H5.size := Nat.le_trans hG hz5
  refine W.eq (g2 := F0 m 10 ls [.int 4, .int 0]) (by rw [hw5]) ?_
  refine lv_icmp_ge (tgt := 44) hx hb dX0_reckonDelays_10 (by decide) (fun cz => absurd cz (by decide)) (fun _ => ?_)
  refine lv_aload_n hx hb dX0_reckonDelays_13 rfl (lv_at hl 1 rfl) ?_
  refine va_get (D := (dC, dI)) (ci := 2) (v := .ref h1) (C := RX0) (T := TX0) (N := 4) hx hb hts in_X0 hown hK hP 0 rfl rfl 3 (by decide) (hts _ q_31) (fun _ h9 => h9) rfl dX0_reckonDelays_14 ?_
  refine lv_iload_n hx hb dX0_reckonDelays_17 rfl (lv_at hl 0 rfl) ?_
  have hM9 := k286_get l hl9 dC dI z h1 h2 h3 h4 h5 h6 H5.size kc0
  obtain ⟨hF7, hC10⟩ := pc_M hM9 hP hD hK hS hX hT hA [1, 2] [0] rfl rfl rfl
  refine va_callr (va_runV (As := [.int 0]) (rest := []) ⟨hx, hb, hml, hown, hts⟩ hM9 (cwV 1 hts (gV q_156 q_157 q_158 q_12 q_155) rfl rfl rfl hV_Jx4a65c_get_915e3 ⟨Nat.le_of_ble_eq_true rfl, Nat.le_of_ble_eq_true rfl⟩) ⟨pc_blind, va_recv hK hP (ci := 0) (q := (RJx4a65c, TJx4a65c, 3)) (q0 := 1) rfl rfl, fun U hU hW => ⟨rfl, hC10 U hU hW⟩⟩ rfl rfl hl.1 rfl (lv_room (Nat.le_of_ble_eq_true rfl)) dX0_reckonDelays_18 ⟨(Nat.le_of_ble_eq_true rfl), (Nat.le_of_ble_eq_true rfl)⟩) hS (fun q9 _ h9 => hF7 q9 h9) hF7 (fun u11 r12 t11 H11 L11 ht11 hvm11 hw11 hB11 hz11 hk11 hS => ?_)
  obtain ⟨hr11, hB11⟩ := hB11
  have hP := pq_keep hP hD [1, 2] rfl hk11 hB11.1 ht11
  have hG : s.heap.size + 0 ≤ H11.size := Nat.le_trans hG hz11
  refine W.eq (g2 := F0 m 21 ls [.ref h3]) (by rw [hr11]) ?_
  refine va_castE (nm := RX2) hx hb hown (hts _ q_89) (va_recv hK hP (ci := 3) (q := (RX2, TX2, 19)) (q0 := 3) rfl rfl) dX0_reckonDelays_21 ?_
  refine lv_astore_n (lv' := [(2, .ref h3), (1, .int 0), (0, .ref h0)]) hx hb dX0_reckonDelays_24 rfl hl (by decide) rfl (fun ls hl => ?_)
  refine lv_aload_n hx hb dX0_reckonDelays_25 rfl (lv_at hl 0 rfl) ?_
  refine lv_aload_n hx hb dX0_reckonDelays_26 rfl (lv_at hl 0 rfl) ?_
  have hM15 := k35_latestArrival l hl9 dC dI z h3 h7 H11.size
  obtain ⟨hF13, hC16⟩ := pc_M hM15 hP hD hK hS hX hT hA [3, 7] [] rfl rfl rfl
  refine va_calli (va_runV (As := []) (rest := [.ref h3]) ⟨hx, hb, hml, hown, hts⟩ hM15 (cwV 0 hts (gV q_179 q_180 q_181 q_91 q_178) rfl rfl rfl hV_X2_latestArrival ⟨Nat.le_of_ble_eq_true rfl, Nat.le_of_ble_eq_true rfl⟩) ⟨pc_blind, va_recv hK hP (ci := 3) (q := (RX2, TX2, 19)) (q0 := 3) rfl rfl, fun U hU hW => ⟨rfl, hC16 U hU hW⟩⟩ rfl rfl hl.1 rfl (lv_room (Nat.le_of_ble_eq_true rfl)) dX0_reckonDelays_27 ⟨(Nat.le_of_ble_eq_true rfl), (Nat.le_of_ble_eq_true rfl)⟩) hS (fun q9 _ h9 => hF13 q9 h9) hF13 (fun r18 u17 t17 H17 L17 ht17 hvm17 hw17 hB17 hz17 hk17 hS => ?_)
  have hP := pq_keep hP hD [3, 7] rfl hk17 hB17.1 ht17
  have hG : s.heap.size + 0 ≤ H17.size := Nat.le_trans hG hz17
  refine W.eq (g2 := F0 m 30 ls [.int 0, .ref h3]) (by rw [hw17]) ?_
  refine va_put (D := (dC, dI)) (ci := 3) (v := .int 0) (ty := .int) (C := RX2) (T := TX2) (N := 19) hx hb hts in_X2 tyX2 tyX2_ok nmX2 hown hK hP hD (va_Sre hS) 3 rfl rfl 14 (by decide) (hts _ q_182) (fun _ h9 => h9) rfl (by decide +kernel) rfl rfl (Nat.le_of_ble_eq_true rfl) dX0_reckonDelays_30 (fun H19 _ hP hD hS' => ?_)
  have hG : s.heap.size + 0 ≤ H19.size := Nat.le_trans hG hS'.1
  have hS := va_Str hS hS'
  have hP : va_P (dC, dI) xCl [(h0, ce7 o0 o1 o2 h1), (h1, ce167 h2), (h2, ce146 kc0 h3 h4 h5 h6), (h3, ce38 (z.2.1 0) h7 h3), (h4, ce77 (z.2.1 0) h8 h4), (h5, ce115 (z.2.1 0) h9 h5), (h6, ce165 (z.2.1 0) h10 h6), (h7, ce3 z.1), (h8, ce3 z.1), (h9, ce3 z.1), (h10, ce3 z.1)] H19 := hP
  have hD := vd_as hP hD rfl
  refine lv_aload_n hx hb dX0_reckonDelays_33 rfl (lv_at hl 0 rfl) ?_
  refine lv_iconst (v := 0) hx hb dX0_reckonDelays_34 (by decide) ?_
  refine va_put (D := (dC, dI)) (ci := 3) (v := .int 0) (ty := .int) (C := RX2) (T := TX2) (N := 19) hx hb hts in_X2 tyX2 tyX2_ok nmX2 hown hK hP hD (va_Sre hS) 3 rfl rfl 15 (by decide) (hts _ q_183) (fun _ h9 => h9) rfl (by decide +kernel) rfl rfl (Nat.le_of_ble_eq_true rfl) dX0_reckonDelays_35 (fun H20 _ hP hD hS' => ?_)
  have hG : s.heap.size + 0 ≤ H20.size := Nat.le_trans hG hS'.1
  have hS := va_Str hS hS'
  have hP : va_P (dC, dI) xCl [(h0, ce7 o0 o1 o2 h1), (h1, ce167 h2), (h2, ce146 kc0 h3 h4 h5 h6), (h3, ce38 (z.2.1 0) h7 h3), (h4, ce77 (z.2.1 0) h8 h4), (h5, ce115 (z.2.1 0) h9 h5), (h6, ce165 (z.2.1 0) h10 h6), (h7, ce3 z.1), (h8, ce3 z.1), (h9, ce3 z.1), (h10, ce3 z.1)] H20 := hP
  have hD := vd_as hP hD rfl
  refine lv_iinc (v := 1) (lv' := [(1, .int 1), (2, .ref h3), (0, .ref h0)]) hx hb dX0_reckonDelays_38 hl (k := 1) rfl (by decide) (by decide) rfl (fun ls hl => ?_)
  refine lv_goto (tgt := 2) hx hb dX0_reckonDelays_41 (by decide) ?_
  refine lv_iload_n hx hb dX0_reckonDelays_2 rfl (lv_at hl 0 rfl) ?_
  refine lv_aload_n hx hb dX0_reckonDelays_3 rfl (lv_at hl 2 rfl) ?_
  refine va_get (D := (dC, dI)) (ci := 2) (v := .ref h1) (C := RX0) (T := TX0) (N := 4) hx hb hts in_X0 hown hK hP 0 rfl rfl 3 (by decide) (hts _ q_31) (fun _ h9 => h9) rfl dX0_reckonDelays_4 ?_
  have hM23 := k20_size l hl9 dC dI z h1 h2 H20.size 14 4
  obtain ⟨hF21, hC24⟩ := pc_M hM23 hP hD hK hS hX hT hA [1] [] rfl rfl rfl
  refine va_calli (va_runV (As := []) (rest := [.int 1]) ⟨hx, hb, hml, hown, hts⟩ hM23 (cwV 0 hts (gV q_92 q_77 q_78 q_12 q_75) rfl rfl rfl hV_Jx4a65c_size_8abf5 ⟨Nat.le_of_ble_eq_true rfl, Nat.le_of_ble_eq_true rfl⟩) ⟨pc_blind, va_recv hK hP (ci := 0) (q := (RJx4a65c, TJx4a65c, 3)) (q0 := 1) rfl rfl, fun U hU hW => ⟨rfl, hC24 U hU hW⟩⟩ rfl rfl hl.1 rfl (lv_room (Nat.le_of_ble_eq_true rfl)) dX0_reckonDelays_7 ⟨(Nat.le_of_ble_eq_true rfl), (Nat.le_of_ble_eq_true rfl)⟩) hS (fun q9 _ h9 => hF21 q9 h9) hF21 (fun r26 u25 t25 H25 L25 ht25 hvm25 hw25 hB25 hz25 hk25 hS => ?_)
  have hP := pq_keep hP hD [1] rfl hk25 hB25.1 ht25
  have hG : s.heap.size + 0 ≤ H25.size := Nat.le_trans hG hz25
  refine W.eq (g2 := F0 m 10 ls [.int 4, .int 1]) (by rw [hw25]) ?_
  refine lv_icmp_ge (tgt := 44) hx hb dX0_reckonDelays_10 (by decide) (fun cz => absurd cz (by decide)) (fun _ => ?_)
  refine lv_aload_n hx hb dX0_reckonDelays_13 rfl (lv_at hl 2 rfl) ?_
  refine va_get (D := (dC, dI)) (ci := 2) (v := .ref h1) (C := RX0) (T := TX0) (N := 4) hx hb hts in_X0 hown hK hP 0 rfl rfl 3 (by decide) (hts _ q_31) (fun _ h9 => h9) rfl dX0_reckonDelays_14 ?_
  refine lv_iload_n hx hb dX0_reckonDelays_17 rfl (lv_at hl 0 rfl) ?_
  have hM29 := k288_get l hl9 dC dI z h1 h2 h3 h4 h5 h6 H25.size kc0
  obtain ⟨hF27, hC30⟩ := pc_M hM29 hP hD hK hS hX hT hA [1, 2] [0] rfl rfl rfl
  refine va_callr (va_runV (As := [.int 1]) (rest := []) ⟨hx, hb, hml, hown, hts⟩ hM29 (cwV 1 hts (gV q_156 q_157 q_158 q_12 q_155) rfl rfl rfl hV_Jx4a65c_get_915e3 ⟨Nat.le_of_ble_eq_true rfl, Nat.le_of_ble_eq_true rfl⟩) ⟨pc_blind, va_recv hK hP (ci := 0) (q := (RJx4a65c, TJx4a65c, 3)) (q0 := 1) rfl rfl, fun U hU hW => ⟨rfl, hC30 U hU hW⟩⟩ rfl rfl hl.1 rfl (lv_room (Nat.le_of_ble_eq_true rfl)) dX0_reckonDelays_18 ⟨(Nat.le_of_ble_eq_true rfl), (Nat.le_of_ble_eq_true rfl)⟩) hS (fun q9 _ h9 => hF27 q9 h9) hF27 (fun u31 r32 t31 H31 L31 ht31 hvm31 hw31 hB31 hz31 hk31 hS => ?_)
  obtain ⟨hr31, hB31⟩ := hB31
  have hP := pq_keep hP hD [1, 2] rfl hk31 hB31.1 ht31
  have hG : s.heap.size + 0 ≤ H31.size := Nat.le_trans hG hz31
  refine W.eq (g2 := F0 m 21 ls [.ref h4]) (by rw [hr31]) ?_
  refine va_castE (nm := RX2) hx hb hown (hts _ q_89) (va_recv hK hP (ci := 3) (q := (RX2, TX2, 19)) (q0 := 4) rfl rfl) dX0_reckonDelays_21 ?_
  refine lv_astore_n (lv' := [(2, .ref h4), (1, .int 1), (0, .ref h0)]) hx hb dX0_reckonDelays_24 rfl hl (by decide) rfl (fun ls hl => ?_)
  refine lv_aload_n hx hb dX0_reckonDelays_25 rfl (lv_at hl 0 rfl) ?_
  refine lv_aload_n hx hb dX0_reckonDelays_26 rfl (lv_at hl 0 rfl) ?_
  have hM35 := k108_latestArrival l hl9 dC dI z h4 h8 H31.size
  obtain ⟨hF33, hC36⟩ := pc_M hM35 hP hD hK hS hX hT hA [4, 8] [] rfl rfl rfl
  refine va_calli (va_runV (As := []) (rest := [.ref h4]) ⟨hx, hb, hml, hown, hts⟩ hM35 (cwV 0 hts (gV q_179 q_180 q_181 q_91 q_178) rfl rfl rfl hV_X2_latestArrival ⟨Nat.le_of_ble_eq_true rfl, Nat.le_of_ble_eq_true rfl⟩) ⟨pc_blind, va_recv hK hP (ci := 3) (q := (RX2, TX2, 19)) (q0 := 4) rfl rfl, fun U hU hW => ⟨rfl, hC36 U hU hW⟩⟩ rfl rfl hl.1 rfl (lv_room (Nat.le_of_ble_eq_true rfl)) dX0_reckonDelays_27 ⟨(Nat.le_of_ble_eq_true rfl), (Nat.le_of_ble_eq_true rfl)⟩) hS (fun q9 _ h9 => hF33 q9 h9) hF33 (fun r38 u37 t37 H37 L37 ht37 hvm37 hw37 hB37 hz37 hk37 hS => ?_)
  have hP := pq_keep hP hD [4, 8] rfl hk37 hB37.1 ht37
  have hG : s.heap.size + 0 ≤ H37.size := Nat.le_trans hG hz37
  refine W.eq (g2 := F0 m 30 ls [.int 0, .ref h4]) (by rw [hw37]) ?_
  refine va_put (D := (dC, dI)) (ci := 3) (v := .int 0) (ty := .int) (C := RX2) (T := TX2) (N := 19) hx hb hts in_X2 tyX2 tyX2_ok nmX2 hown hK hP hD (va_Sre hS) 4 rfl rfl 14 (by decide) (hts _ q_182) (fun _ h9 => h9) rfl (by decide +kernel) rfl rfl (Nat.le_of_ble_eq_true rfl) dX0_reckonDelays_30 (fun H39 _ hP hD hS' => ?_)
  have hG : s.heap.size + 0 ≤ H39.size := Nat.le_trans hG hS'.1
  have hS := va_Str hS hS'
  have hP : va_P (dC, dI) xCl [(h0, ce7 o0 o1 o2 h1), (h1, ce167 h2), (h2, ce146 kc0 h3 h4 h5 h6), (h3, ce38 (z.2.1 0) h7 h3), (h4, ce77 (z.2.1 0) h8 h4), (h5, ce115 (z.2.1 0) h9 h5), (h6, ce165 (z.2.1 0) h10 h6), (h7, ce3 z.1), (h8, ce3 z.1), (h9, ce3 z.1), (h10, ce3 z.1)] H39 := hP
  have hD := vd_as hP hD rfl
  refine lv_aload_n hx hb dX0_reckonDelays_33 rfl (lv_at hl 0 rfl) ?_
  refine lv_iconst (v := 0) hx hb dX0_reckonDelays_34 (by decide) ?_
  refine va_put (D := (dC, dI)) (ci := 3) (v := .int 0) (ty := .int) (C := RX2) (T := TX2) (N := 19) hx hb hts in_X2 tyX2 tyX2_ok nmX2 hown hK hP hD (va_Sre hS) 4 rfl rfl 15 (by decide) (hts _ q_183) (fun _ h9 => h9) rfl (by decide +kernel) rfl rfl (Nat.le_of_ble_eq_true rfl) dX0_reckonDelays_35 (fun H40 _ hP hD hS' => ?_)
  have hG : s.heap.size + 0 ≤ H40.size := Nat.le_trans hG hS'.1
  have hS := va_Str hS hS'
  have hP : va_P (dC, dI) xCl [(h0, ce7 o0 o1 o2 h1), (h1, ce167 h2), (h2, ce146 kc0 h3 h4 h5 h6), (h3, ce38 (z.2.1 0) h7 h3), (h4, ce77 (z.2.1 0) h8 h4), (h5, ce115 (z.2.1 0) h9 h5), (h6, ce165 (z.2.1 0) h10 h6), (h7, ce3 z.1), (h8, ce3 z.1), (h9, ce3 z.1), (h10, ce3 z.1)] H40 := hP
  have hD := vd_as hP hD rfl
  refine lv_iinc (v := 2) (lv' := [(1, .int 2), (2, .ref h4), (0, .ref h0)]) hx hb dX0_reckonDelays_38 hl (k := 1) rfl (by decide) (by decide) rfl (fun ls hl => ?_)
  refine lv_goto (tgt := 2) hx hb dX0_reckonDelays_41 (by decide) ?_
  refine lv_iload_n hx hb dX0_reckonDelays_2 rfl (lv_at hl 0 rfl) ?_
  refine lv_aload_n hx hb dX0_reckonDelays_3 rfl (lv_at hl 2 rfl) ?_
  refine va_get (D := (dC, dI)) (ci := 2) (v := .ref h1) (C := RX0) (T := TX0) (N := 4) hx hb hts in_X0 hown hK hP 0 rfl rfl 3 (by decide) (hts _ q_31) (fun _ h9 => h9) rfl dX0_reckonDelays_4 ?_
  have hM43 := k20_size l hl9 dC dI z h1 h2 H40.size 14 4
  obtain ⟨hF41, hC44⟩ := pc_M hM43 hP hD hK hS hX hT hA [1] [] rfl rfl rfl
  refine va_calli (va_runV (As := []) (rest := [.int 2]) ⟨hx, hb, hml, hown, hts⟩ hM43 (cwV 0 hts (gV q_92 q_77 q_78 q_12 q_75) rfl rfl rfl hV_Jx4a65c_size_8abf5 ⟨Nat.le_of_ble_eq_true rfl, Nat.le_of_ble_eq_true rfl⟩) ⟨pc_blind, va_recv hK hP (ci := 0) (q := (RJx4a65c, TJx4a65c, 3)) (q0 := 1) rfl rfl, fun U hU hW => ⟨rfl, hC44 U hU hW⟩⟩ rfl rfl hl.1 rfl (lv_room (Nat.le_of_ble_eq_true rfl)) dX0_reckonDelays_7 ⟨(Nat.le_of_ble_eq_true rfl), (Nat.le_of_ble_eq_true rfl)⟩) hS (fun q9 _ h9 => hF41 q9 h9) hF41 (fun r46 u45 t45 H45 L45 ht45 hvm45 hw45 hB45 hz45 hk45 hS => ?_)
  have hP := pq_keep hP hD [1] rfl hk45 hB45.1 ht45
  have hG : s.heap.size + 0 ≤ H45.size := Nat.le_trans hG hz45
  refine W.eq (g2 := F0 m 10 ls [.int 4, .int 2]) (by rw [hw45]) ?_
  refine lv_icmp_ge (tgt := 44) hx hb dX0_reckonDelays_10 (by decide) (fun cz => absurd cz (by decide)) (fun _ => ?_)
  refine lv_aload_n hx hb dX0_reckonDelays_13 rfl (lv_at hl 2 rfl) ?_
  refine va_get (D := (dC, dI)) (ci := 2) (v := .ref h1) (C := RX0) (T := TX0) (N := 4) hx hb hts in_X0 hown hK hP 0 rfl rfl 3 (by decide) (hts _ q_31) (fun _ h9 => h9) rfl dX0_reckonDelays_14 ?_
  refine lv_iload_n hx hb dX0_reckonDelays_17 rfl (lv_at hl 0 rfl) ?_
  have hM49 := k290_get l hl9 dC dI z h1 h2 h3 h4 h5 h6 H45.size kc0
  obtain ⟨hF47, hC50⟩ := pc_M hM49 hP hD hK hS hX hT hA [1, 2] [0] rfl rfl rfl
  refine va_callr (va_runV (As := [.int 2]) (rest := []) ⟨hx, hb, hml, hown, hts⟩ hM49 (cwV 1 hts (gV q_156 q_157 q_158 q_12 q_155) rfl rfl rfl hV_Jx4a65c_get_915e3 ⟨Nat.le_of_ble_eq_true rfl, Nat.le_of_ble_eq_true rfl⟩) ⟨pc_blind, va_recv hK hP (ci := 0) (q := (RJx4a65c, TJx4a65c, 3)) (q0 := 1) rfl rfl, fun U hU hW => ⟨rfl, hC50 U hU hW⟩⟩ rfl rfl hl.1 rfl (lv_room (Nat.le_of_ble_eq_true rfl)) dX0_reckonDelays_18 ⟨(Nat.le_of_ble_eq_true rfl), (Nat.le_of_ble_eq_true rfl)⟩) hS (fun q9 _ h9 => hF47 q9 h9) hF47 (fun u51 r52 t51 H51 L51 ht51 hvm51 hw51 hB51 hz51 hk51 hS => ?_)
  obtain ⟨hr51, hB51⟩ := hB51
  have hP := pq_keep hP hD [1, 2] rfl hk51 hB51.1 ht51
  have hG : s.heap.size + 0 ≤ H51.size := Nat.le_trans hG hz51
  refine W.eq (g2 := F0 m 21 ls [.ref h5]) (by rw [hr51]) ?_
  refine va_castE (nm := RX2) hx hb hown (hts _ q_89) (va_recv hK hP (ci := 3) (q := (RX2, TX2, 19)) (q0 := 5) rfl rfl) dX0_reckonDelays_21 ?_
  refine lv_astore_n (lv' := [(2, .ref h5), (1, .int 2), (0, .ref h0)]) hx hb dX0_reckonDelays_24 rfl hl (by decide) rfl (fun ls hl => ?_)
  refine lv_aload_n hx hb dX0_reckonDelays_25 rfl (lv_at hl 0 rfl) ?_
  refine lv_aload_n hx hb dX0_reckonDelays_26 rfl (lv_at hl 0 rfl) ?_
  have hM55 := k193_latestArrival l hl9 dC dI z h5 h9 H51.size
  obtain ⟨hF53, hC56⟩ := pc_M hM55 hP hD hK hS hX hT hA [5, 9] [] rfl rfl rfl
  refine va_calli (va_runV (As := []) (rest := [.ref h5]) ⟨hx, hb, hml, hown, hts⟩ hM55 (cwV 0 hts (gV q_179 q_180 q_181 q_91 q_178) rfl rfl rfl hV_X2_latestArrival ⟨Nat.le_of_ble_eq_true rfl, Nat.le_of_ble_eq_true rfl⟩) ⟨pc_blind, va_recv hK hP (ci := 3) (q := (RX2, TX2, 19)) (q0 := 5) rfl rfl, fun U hU hW => ⟨rfl, hC56 U hU hW⟩⟩ rfl rfl hl.1 rfl (lv_room (Nat.le_of_ble_eq_true rfl)) dX0_reckonDelays_27 ⟨(Nat.le_of_ble_eq_true rfl), (Nat.le_of_ble_eq_true rfl)⟩) hS (fun q9 _ h9 => hF53 q9 h9) hF53 (fun r58 u57 t57 H57 L57 ht57 hvm57 hw57 hB57 hz57 hk57 hS => ?_)
  have hP := pq_keep hP hD [5, 9] rfl hk57 hB57.1 ht57
  have hG : s.heap.size + 0 ≤ H57.size := Nat.le_trans hG hz57
  refine W.eq (g2 := F0 m 30 ls [.int 0, .ref h5]) (by rw [hw57]) ?_
  refine va_put (D := (dC, dI)) (ci := 3) (v := .int 0) (ty := .int) (C := RX2) (T := TX2) (N := 19) hx hb hts in_X2 tyX2 tyX2_ok nmX2 hown hK hP hD (va_Sre hS) 5 rfl rfl 14 (by decide) (hts _ q_182) (fun _ h9 => h9) rfl (by decide +kernel) rfl rfl (Nat.le_of_ble_eq_true rfl) dX0_reckonDelays_30 (fun H59 _ hP hD hS' => ?_)
  have hG : s.heap.size + 0 ≤ H59.size := Nat.le_trans hG hS'.1
  have hS := va_Str hS hS'
  have hP : va_P (dC, dI) xCl [(h0, ce7 o0 o1 o2 h1), (h1, ce167 h2), (h2, ce146 kc0 h3 h4 h5 h6), (h3, ce38 (z.2.1 0) h7 h3), (h4, ce77 (z.2.1 0) h8 h4), (h5, ce115 (z.2.1 0) h9 h5), (h6, ce165 (z.2.1 0) h10 h6), (h7, ce3 z.1), (h8, ce3 z.1), (h9, ce3 z.1), (h10, ce3 z.1)] H59 := hP
  have hD := vd_as hP hD rfl
  refine lv_aload_n hx hb dX0_reckonDelays_33 rfl (lv_at hl 0 rfl) ?_
  refine lv_iconst (v := 0) hx hb dX0_reckonDelays_34 (by decide) ?_
  refine va_put (D := (dC, dI)) (ci := 3) (v := .int 0) (ty := .int) (C := RX2) (T := TX2) (N := 19) hx hb hts in_X2 tyX2 tyX2_ok nmX2 hown hK hP hD (va_Sre hS) 5 rfl rfl 15 (by decide) (hts _ q_183) (fun _ h9 => h9) rfl (by decide +kernel) rfl rfl (Nat.le_of_ble_eq_true rfl) dX0_reckonDelays_35 (fun H60 _ hP hD hS' => ?_)
  have hG : s.heap.size + 0 ≤ H60.size := Nat.le_trans hG hS'.1
  have hS := va_Str hS hS'
  have hP : va_P (dC, dI) xCl [(h0, ce7 o0 o1 o2 h1), (h1, ce167 h2), (h2, ce146 kc0 h3 h4 h5 h6), (h3, ce38 (z.2.1 0) h7 h3), (h4, ce77 (z.2.1 0) h8 h4), (h5, ce115 (z.2.1 0) h9 h5), (h6, ce165 (z.2.1 0) h10 h6), (h7, ce3 z.1), (h8, ce3 z.1), (h9, ce3 z.1), (h10, ce3 z.1)] H60 := hP
  have hD := vd_as hP hD rfl
  refine lv_iinc (v := 3) (lv' := [(1, .int 3), (2, .ref h5), (0, .ref h0)]) hx hb dX0_reckonDelays_38 hl (k := 1) rfl (by decide) (by decide) rfl (fun ls hl => ?_)
  refine lv_goto (tgt := 2) hx hb dX0_reckonDelays_41 (by decide) ?_
  refine lv_iload_n hx hb dX0_reckonDelays_2 rfl (lv_at hl 0 rfl) ?_
  refine lv_aload_n hx hb dX0_reckonDelays_3 rfl (lv_at hl 2 rfl) ?_
  refine va_get (D := (dC, dI)) (ci := 2) (v := .ref h1) (C := RX0) (T := TX0) (N := 4) hx hb hts in_X0 hown hK hP 0 rfl rfl 3 (by decide) (hts _ q_31) (fun _ h9 => h9) rfl dX0_reckonDelays_4 ?_
  have hM63 := k20_size l hl9 dC dI z h1 h2 H60.size 14 4
  obtain ⟨hF61, hC64⟩ := pc_M hM63 hP hD hK hS hX hT hA [1] [] rfl rfl rfl
  refine va_calli (va_runV (As := []) (rest := [.int 3]) ⟨hx, hb, hml, hown, hts⟩ hM63 (cwV 0 hts (gV q_92 q_77 q_78 q_12 q_75) rfl rfl rfl hV_Jx4a65c_size_8abf5 ⟨Nat.le_of_ble_eq_true rfl, Nat.le_of_ble_eq_true rfl⟩) ⟨pc_blind, va_recv hK hP (ci := 0) (q := (RJx4a65c, TJx4a65c, 3)) (q0 := 1) rfl rfl, fun U hU hW => ⟨rfl, hC64 U hU hW⟩⟩ rfl rfl hl.1 rfl (lv_room (Nat.le_of_ble_eq_true rfl)) dX0_reckonDelays_7 ⟨(Nat.le_of_ble_eq_true rfl), (Nat.le_of_ble_eq_true rfl)⟩) hS (fun q9 _ h9 => hF61 q9 h9) hF61 (fun r66 u65 t65 H65 L65 ht65 hvm65 hw65 hB65 hz65 hk65 hS => ?_)
  have hP := pq_keep hP hD [1] rfl hk65 hB65.1 ht65
  have hG : s.heap.size + 0 ≤ H65.size := Nat.le_trans hG hz65
  refine W.eq (g2 := F0 m 10 ls [.int 4, .int 3]) (by rw [hw65]) ?_
  refine lv_icmp_ge (tgt := 44) hx hb dX0_reckonDelays_10 (by decide) (fun cz => absurd cz (by decide)) (fun _ => ?_)
  refine lv_aload_n hx hb dX0_reckonDelays_13 rfl (lv_at hl 2 rfl) ?_
  refine va_get (D := (dC, dI)) (ci := 2) (v := .ref h1) (C := RX0) (T := TX0) (N := 4) hx hb hts in_X0 hown hK hP 0 rfl rfl 3 (by decide) (hts _ q_31) (fun _ h9 => h9) rfl dX0_reckonDelays_14 ?_
  refine lv_iload_n hx hb dX0_reckonDelays_17 rfl (lv_at hl 0 rfl) ?_
  have hM69 := k292_get l hl9 dC dI z h1 h2 h3 h4 h5 h6 H65.size kc0
  obtain ⟨hF67, hC70⟩ := pc_M hM69 hP hD hK hS hX hT hA [1, 2] [0] rfl rfl rfl
  refine va_callr (va_runV (As := [.int 3]) (rest := []) ⟨hx, hb, hml, hown, hts⟩ hM69 (cwV 1 hts (gV q_156 q_157 q_158 q_12 q_155) rfl rfl rfl hV_Jx4a65c_get_915e3 ⟨Nat.le_of_ble_eq_true rfl, Nat.le_of_ble_eq_true rfl⟩) ⟨pc_blind, va_recv hK hP (ci := 0) (q := (RJx4a65c, TJx4a65c, 3)) (q0 := 1) rfl rfl, fun U hU hW => ⟨rfl, hC70 U hU hW⟩⟩ rfl rfl hl.1 rfl (lv_room (Nat.le_of_ble_eq_true rfl)) dX0_reckonDelays_18 ⟨(Nat.le_of_ble_eq_true rfl), (Nat.le_of_ble_eq_true rfl)⟩) hS (fun q9 _ h9 => hF67 q9 h9) hF67 (fun u71 r72 t71 H71 L71 ht71 hvm71 hw71 hB71 hz71 hk71 hS => ?_)
  obtain ⟨hr71, hB71⟩ := hB71
  have hP := pq_keep hP hD [1, 2] rfl hk71 hB71.1 ht71
  have hG : s.heap.size + 0 ≤ H71.size := Nat.le_trans hG hz71
  refine W.eq (g2 := F0 m 21 ls [.ref h6]) (by rw [hr71]) ?_
  refine va_castE (nm := RX2) hx hb hown (hts _ q_89) (va_recv hK hP (ci := 3) (q := (RX2, TX2, 19)) (q0 := 6) rfl rfl) dX0_reckonDelays_21 ?_
  refine lv_astore_n (lv' := [(2, .ref h6), (1, .int 3), (0, .ref h0)]) hx hb dX0_reckonDelays_24 rfl hl (by decide) rfl (fun ls hl => ?_)
  refine lv_aload_n hx hb dX0_reckonDelays_25 rfl (lv_at hl 0 rfl) ?_
  refine lv_aload_n hx hb dX0_reckonDelays_26 rfl (lv_at hl 0 rfl) ?_
  have hM75 := k293_latestArrival l hl9 dC dI z h6 h10 H71.size
  obtain ⟨hF73, hC76⟩ := pc_M hM75 hP hD hK hS hX hT hA [6, 10] [] rfl rfl rfl
  refine va_calli (va_runV (As := []) (rest := [.ref h6]) ⟨hx, hb, hml, hown, hts⟩ hM75 (cwV 0 hts (gV q_179 q_180 q_181 q_91 q_178) rfl rfl rfl hV_X2_latestArrival ⟨Nat.le_of_ble_eq_true rfl, Nat.le_of_ble_eq_true rfl⟩) ⟨pc_blind, va_recv hK hP (ci := 3) (q := (RX2, TX2, 19)) (q0 := 6) rfl rfl, fun U hU hW => ⟨rfl, hC76 U hU hW⟩⟩ rfl rfl hl.1 rfl (lv_room (Nat.le_of_ble_eq_true rfl)) dX0_reckonDelays_27 ⟨(Nat.le_of_ble_eq_true rfl), (Nat.le_of_ble_eq_true rfl)⟩) hS (fun q9 _ h9 => hF73 q9 h9) hF73 (fun r78 u77 t77 H77 L77 ht77 hvm77 hw77 hB77 hz77 hk77 hS => ?_)
  have hP := pq_keep hP hD [6, 10] rfl hk77 hB77.1 ht77
  have hG : s.heap.size + 0 ≤ H77.size := Nat.le_trans hG hz77
  refine W.eq (g2 := F0 m 30 ls [.int 0, .ref h6]) (by rw [hw77]) ?_
  refine va_put (D := (dC, dI)) (ci := 3) (v := .int 0) (ty := .int) (C := RX2) (T := TX2) (N := 19) hx hb hts in_X2 tyX2 tyX2_ok nmX2 hown hK hP hD (va_Sre hS) 6 rfl rfl 14 (by decide) (hts _ q_182) (fun _ h9 => h9) rfl (by decide +kernel) rfl rfl (Nat.le_of_ble_eq_true rfl) dX0_reckonDelays_30 (fun H79 _ hP hD hS' => ?_)
  have hG : s.heap.size + 0 ≤ H79.size := Nat.le_trans hG hS'.1
  have hS := va_Str hS hS'
  have hP : va_P (dC, dI) xCl [(h0, ce7 o0 o1 o2 h1), (h1, ce167 h2), (h2, ce146 kc0 h3 h4 h5 h6), (h3, ce38 (z.2.1 0) h7 h3), (h4, ce77 (z.2.1 0) h8 h4), (h5, ce115 (z.2.1 0) h9 h5), (h6, ce165 (z.2.1 0) h10 h6), (h7, ce3 z.1), (h8, ce3 z.1), (h9, ce3 z.1), (h10, ce3 z.1)] H79 := hP
  have hD := vd_as hP hD rfl
  refine lv_aload_n hx hb dX0_reckonDelays_33 rfl (lv_at hl 0 rfl) ?_
  refine lv_iconst (v := 0) hx hb dX0_reckonDelays_34 (by decide) ?_
  refine va_put (D := (dC, dI)) (ci := 3) (v := .int 0) (ty := .int) (C := RX2) (T := TX2) (N := 19) hx hb hts in_X2 tyX2 tyX2_ok nmX2 hown hK hP hD (va_Sre hS) 6 rfl rfl 15 (by decide) (hts _ q_183) (fun _ h9 => h9) rfl (by decide +kernel) rfl rfl (Nat.le_of_ble_eq_true rfl) dX0_reckonDelays_35 (fun H80 _ hP hD hS' => ?_)
  have hG : s.heap.size + 0 ≤ H80.size := Nat.le_trans hG hS'.1
  have hS := va_Str hS hS'
  have hP : va_P (dC, dI) xCl [(h0, ce7 o0 o1 o2 h1), (h1, ce167 h2), (h2, ce146 kc0 h3 h4 h5 h6), (h3, ce38 (z.2.1 0) h7 h3), (h4, ce77 (z.2.1 0) h8 h4), (h5, ce115 (z.2.1 0) h9 h5), (h6, ce165 (z.2.1 0) h10 h6), (h7, ce3 z.1), (h8, ce3 z.1), (h9, ce3 z.1), (h10, ce3 z.1)] H80 := hP
  have hD := vd_as hP hD rfl
  refine lv_iinc (v := 4) (lv' := [(1, .int 4), (2, .ref h6), (0, .ref h0)]) hx hb dX0_reckonDelays_38 hl (k := 1) rfl (by decide) (by decide) rfl (fun ls hl => ?_)
  refine lv_goto (tgt := 2) hx hb dX0_reckonDelays_41 (by decide) ?_
  refine lv_iload_n hx hb dX0_reckonDelays_2 rfl (lv_at hl 0 rfl) ?_
  refine lv_aload_n hx hb dX0_reckonDelays_3 rfl (lv_at hl 2 rfl) ?_
  refine va_get (D := (dC, dI)) (ci := 2) (v := .ref h1) (C := RX0) (T := TX0) (N := 4) hx hb hts in_X0 hown hK hP 0 rfl rfl 3 (by decide) (hts _ q_31) (fun _ h9 => h9) rfl dX0_reckonDelays_4 ?_
  have hM83 := k20_size l hl9 dC dI z h1 h2 H80.size 14 4
  obtain ⟨hF81, hC84⟩ := pc_M hM83 hP hD hK hS hX hT hA [1] [] rfl rfl rfl
  refine va_calli (va_runV (As := []) (rest := [.int 4]) ⟨hx, hb, hml, hown, hts⟩ hM83 (cwV 0 hts (gV q_92 q_77 q_78 q_12 q_75) rfl rfl rfl hV_Jx4a65c_size_8abf5 ⟨Nat.le_of_ble_eq_true rfl, Nat.le_of_ble_eq_true rfl⟩) ⟨pc_blind, va_recv hK hP (ci := 0) (q := (RJx4a65c, TJx4a65c, 3)) (q0 := 1) rfl rfl, fun U hU hW => ⟨rfl, hC84 U hU hW⟩⟩ rfl rfl hl.1 rfl (lv_room (Nat.le_of_ble_eq_true rfl)) dX0_reckonDelays_7 ⟨(Nat.le_of_ble_eq_true rfl), (Nat.le_of_ble_eq_true rfl)⟩) hS (fun q9 _ h9 => hF81 q9 h9) hF81 (fun r86 u85 t85 H85 L85 ht85 hvm85 hw85 hB85 hz85 hk85 hS => ?_)
  have hP := pq_keep hP hD [1] rfl hk85 hB85.1 ht85
  have hG : s.heap.size + 0 ≤ H85.size := Nat.le_trans hG hz85
  refine W.eq (g2 := F0 m 10 ls [.int 4, .int 4]) (by rw [hw85]) ?_
  refine lv_icmp_ge (tgt := 44) hx hb dX0_reckonDelays_10 (by decide) (fun _ => ?_) (fun cz => absurd (by decide) cz)
  refine lv_aload_n hx hb dX0_reckonDelays_44 rfl (lv_at hl 2 rfl) ?_
  refine va_get (D := (dC, dI)) (ci := 2) (v := .ref h1) (C := RX0) (T := TX0) (N := 4) hx hb hts in_X0 hown hK hP 0 rfl rfl 3 (by decide) (hts _ q_31) (fun _ h9 => h9) rfl dX0_reckonDelays_45 ?_
  have hM89 := k20_size l hl9 dC dI z h1 h2 H85.size 14 4
  obtain ⟨hF87, hC90⟩ := pc_M hM89 hP hD hK hS hX hT hA [1] [] rfl rfl rfl
  refine va_calli (va_runV (As := []) (rest := []) ⟨hx, hb, hml, hown, hts⟩ hM89 (cwV 0 hts (gV q_92 q_77 q_78 q_12 q_75) rfl rfl rfl hV_Jx4a65c_size_8abf5 ⟨Nat.le_of_ble_eq_true rfl, Nat.le_of_ble_eq_true rfl⟩) ⟨pc_blind, va_recv hK hP (ci := 0) (q := (RJx4a65c, TJx4a65c, 3)) (q0 := 1) rfl rfl, fun U hU hW => ⟨rfl, hC90 U hU hW⟩⟩ rfl rfl hl.1 rfl (lv_room (Nat.le_of_ble_eq_true rfl)) dX0_reckonDelays_48 ⟨(Nat.le_of_ble_eq_true rfl), (Nat.le_of_ble_eq_true rfl)⟩) hS (fun q9 _ h9 => hF87 q9 h9) hF87 (fun r92 u91 t91 H91 L91 ht91 hvm91 hw91 hB91 hz91 hk91 hS => ?_)
  have hP := pq_keep hP hD [1] rfl hk91 hB91.1 ht91
  have hG : s.heap.size + 0 ≤ H91.size := Nat.le_trans hG hz91
  refine W.eq (g2 := F0 m 51 ls [.int 4]) (by rw [hw91]) ?_
  refine lv_iconst (v := 1) hx hb dX0_reckonDelays_51 (by decide) ?_
  refine lv_isub hx hb dX0_reckonDelays_52 ?_
  refine lv_topi (fun y93 ey93 => ?_)
  obtain rfl : y93 = 3 := ey93.trans (by decide)
  refine lv_istore_n (lv' := [(1, .int 3), (2, .ref h6), (0, .ref h0)]) hx hb dX0_reckonDelays_53 rfl hl (by decide) rfl (fun ls hl => ?_)
  refine lv_iload_n hx hb dX0_reckonDelays_54 rfl (lv_at hl 0 rfl) ?_
  refine lv_if_lt (tgt := 78) hx hb dX0_reckonDelays_55 (by decide) (fun cz => absurd cz (by decide)) (fun _ => ?_)
  refine lv_aload_n hx hb dX0_reckonDelays_58 rfl (lv_at hl 2 rfl) ?_
  refine va_get (D := (dC, dI)) (ci := 2) (v := .ref h1) (C := RX0) (T := TX0) (N := 4) hx hb hts in_X0 hown hK hP 0 rfl rfl 3 (by decide) (hts _ q_31) (fun _ h9 => h9) rfl dX0_reckonDelays_59 ?_
  refine lv_iload_n hx hb dX0_reckonDelays_62 rfl (lv_at hl 0 rfl) ?_
  have hM96 := k292_get l hl9 dC dI z h1 h2 h3 h4 h5 h6 H91.size kc0
  obtain ⟨hF94, hC97⟩ := pc_M hM96 hP hD hK hS hX hT hA [1, 2] [0] rfl rfl rfl
  refine va_callr (va_runV (As := [.int 3]) (rest := []) ⟨hx, hb, hml, hown, hts⟩ hM96 (cwV 1 hts (gV q_156 q_157 q_158 q_12 q_155) rfl rfl rfl hV_Jx4a65c_get_915e3 ⟨Nat.le_of_ble_eq_true rfl, Nat.le_of_ble_eq_true rfl⟩) ⟨pc_blind, va_recv hK hP (ci := 0) (q := (RJx4a65c, TJx4a65c, 3)) (q0 := 1) rfl rfl, fun U hU hW => ⟨rfl, hC97 U hU hW⟩⟩ rfl rfl hl.1 rfl (lv_room (Nat.le_of_ble_eq_true rfl)) dX0_reckonDelays_63 ⟨(Nat.le_of_ble_eq_true rfl), (Nat.le_of_ble_eq_true rfl)⟩) hS (fun q9 _ h9 => hF94 q9 h9) hF94 (fun u98 r99 t98 H98 L98 ht98 hvm98 hw98 hB98 hz98 hk98 hS => ?_)
  obtain ⟨hr98, hB98⟩ := hB98
  have hP := pq_keep hP hD [1, 2] rfl hk98 hB98.1 ht98
  have hG : s.heap.size + 0 ≤ H98.size := Nat.le_trans hG hz98
  refine W.eq (g2 := F0 m 66 ls [.ref h6]) (by rw [hr98]) ?_
  refine va_castE (nm := RX2) hx hb hown (hts _ q_89) (va_recv hK hP (ci := 3) (q := (RX2, TX2, 19)) (q0 := 6) rfl rfl) dX0_reckonDelays_66 ?_
  have hM102 := k294_lengthenWaysOfRead l hl9 dC dI z h6 h10 H98.size
  obtain ⟨hF100, hC103⟩ := pc_M hM102 hP hD hK hS hX hT hA [6, 10] [] rfl rfl rfl
  refine va_callv (va_runV (As := []) (rest := []) ⟨hx, hb, hml, hown, hts⟩ hM102 (cwV 0 hts (gV q_185 q_186 q_187 q_91 q_184) rfl rfl rfl hV_X2_lengthenWaysOfRead ⟨Nat.le_of_ble_eq_true rfl, Nat.le_of_ble_eq_true rfl⟩) ⟨pc_blind, va_recv hK hP (ci := 3) (q := (RX2, TX2, 19)) (q0 := 6) rfl rfl, fun U hU hW => ⟨rfl, hC103 U hU hW⟩⟩ rfl rfl hl.1 rfl (lv_room (Nat.le_of_ble_eq_true rfl)) dX0_reckonDelays_69 ⟨(Nat.le_of_ble_eq_true rfl), (Nat.le_of_ble_eq_true rfl)⟩) hS (fun q9 _ h9 => hF100 q9 h9) hF100 (fun u104 t104 H104 L104 ht104 hvm104 hw104 hB104 hz104 hk104 hS => ?_)
  have hP := pq_keep hP hD [6, 10] rfl hk104 hB104.1 ht104
  have hG : s.heap.size + 0 ≤ H104.size := Nat.le_trans hG hz104
  refine lv_iinc (v := 2) (lv' := [(1, .int 2), (2, .ref h6), (0, .ref h0)]) hx hb dX0_reckonDelays_72 hl (k := 0) rfl (by decide) (by decide) rfl (fun ls hl => ?_)
  refine lv_goto (tgt := 54) hx hb dX0_reckonDelays_75 (by decide) ?_
  refine lv_iload_n hx hb dX0_reckonDelays_54 rfl (lv_at hl 0 rfl) ?_
  refine lv_if_lt (tgt := 78) hx hb dX0_reckonDelays_55 (by decide) (fun cz => absurd cz (by decide)) (fun _ => ?_)
  refine lv_aload_n hx hb dX0_reckonDelays_58 rfl (lv_at hl 2 rfl) ?_
  refine va_get (D := (dC, dI)) (ci := 2) (v := .ref h1) (C := RX0) (T := TX0) (N := 4) hx hb hts in_X0 hown hK hP 0 rfl rfl 3 (by decide) (hts _ q_31) (fun _ h9 => h9) rfl dX0_reckonDelays_59 ?_
  refine lv_iload_n hx hb dX0_reckonDelays_62 rfl (lv_at hl 0 rfl) ?_
  have hM108 := k290_get l hl9 dC dI z h1 h2 h3 h4 h5 h6 H104.size kc0
  obtain ⟨hF106, hC109⟩ := pc_M hM108 hP hD hK hS hX hT hA [1, 2] [0] rfl rfl rfl
  refine va_callr (va_runV (As := [.int 2]) (rest := []) ⟨hx, hb, hml, hown, hts⟩ hM108 (cwV 1 hts (gV q_156 q_157 q_158 q_12 q_155) rfl rfl rfl hV_Jx4a65c_get_915e3 ⟨Nat.le_of_ble_eq_true rfl, Nat.le_of_ble_eq_true rfl⟩) ⟨pc_blind, va_recv hK hP (ci := 0) (q := (RJx4a65c, TJx4a65c, 3)) (q0 := 1) rfl rfl, fun U hU hW => ⟨rfl, hC109 U hU hW⟩⟩ rfl rfl hl.1 rfl (lv_room (Nat.le_of_ble_eq_true rfl)) dX0_reckonDelays_63 ⟨(Nat.le_of_ble_eq_true rfl), (Nat.le_of_ble_eq_true rfl)⟩) hS (fun q9 _ h9 => hF106 q9 h9) hF106 (fun u110 r111 t110 H110 L110 ht110 hvm110 hw110 hB110 hz110 hk110 hS => ?_)
  obtain ⟨hr110, hB110⟩ := hB110
  have hP := pq_keep hP hD [1, 2] rfl hk110 hB110.1 ht110
  have hG : s.heap.size + 0 ≤ H110.size := Nat.le_trans hG hz110
  refine W.eq (g2 := F0 m 66 ls [.ref h5]) (by rw [hr110]) ?_
  refine va_castE (nm := RX2) hx hb hown (hts _ q_89) (va_recv hK hP (ci := 3) (q := (RX2, TX2, 19)) (q0 := 5) rfl rfl) dX0_reckonDelays_66 ?_
  have hM114 := k194_lengthenWaysOfRead l hl9 dC dI z h5 h9 H110.size
  obtain ⟨hF112, hC115⟩ := pc_M hM114 hP hD hK hS hX hT hA [5, 9] [] rfl rfl rfl
  refine va_callv (va_runV (As := []) (rest := []) ⟨hx, hb, hml, hown, hts⟩ hM114 (cwV 0 hts (gV q_185 q_186 q_187 q_91 q_184) rfl rfl rfl hV_X2_lengthenWaysOfRead ⟨Nat.le_of_ble_eq_true rfl, Nat.le_of_ble_eq_true rfl⟩) ⟨pc_blind, va_recv hK hP (ci := 3) (q := (RX2, TX2, 19)) (q0 := 5) rfl rfl, fun U hU hW => ⟨rfl, hC115 U hU hW⟩⟩ rfl rfl hl.1 rfl (lv_room (Nat.le_of_ble_eq_true rfl)) dX0_reckonDelays_69 ⟨(Nat.le_of_ble_eq_true rfl), (Nat.le_of_ble_eq_true rfl)⟩) hS (fun q9 _ h9 => hF112 q9 h9) hF112 (fun u116 t116 H116 L116 ht116 hvm116 hw116 hB116 hz116 hk116 hS => ?_)
  have hP := pq_keep hP hD [5, 9] rfl hk116 hB116.1 ht116
  have hG : s.heap.size + 0 ≤ H116.size := Nat.le_trans hG hz116
  refine lv_iinc (v := 1) (lv' := [(1, .int 1), (2, .ref h6), (0, .ref h0)]) hx hb dX0_reckonDelays_72 hl (k := 0) rfl (by decide) (by decide) rfl (fun ls hl => ?_)
  refine lv_goto (tgt := 54) hx hb dX0_reckonDelays_75 (by decide) ?_
  refine lv_iload_n hx hb dX0_reckonDelays_54 rfl (lv_at hl 0 rfl) ?_
  refine lv_if_lt (tgt := 78) hx hb dX0_reckonDelays_55 (by decide) (fun cz => absurd cz (by decide)) (fun _ => ?_)
  refine lv_aload_n hx hb dX0_reckonDelays_58 rfl (lv_at hl 2 rfl) ?_
  refine va_get (D := (dC, dI)) (ci := 2) (v := .ref h1) (C := RX0) (T := TX0) (N := 4) hx hb hts in_X0 hown hK hP 0 rfl rfl 3 (by decide) (hts _ q_31) (fun _ h9 => h9) rfl dX0_reckonDelays_59 ?_
  refine lv_iload_n hx hb dX0_reckonDelays_62 rfl (lv_at hl 0 rfl) ?_
  have hM120 := k288_get l hl9 dC dI z h1 h2 h3 h4 h5 h6 H116.size kc0
  obtain ⟨hF118, hC121⟩ := pc_M hM120 hP hD hK hS hX hT hA [1, 2] [0] rfl rfl rfl
  refine va_callr (va_runV (As := [.int 1]) (rest := []) ⟨hx, hb, hml, hown, hts⟩ hM120 (cwV 1 hts (gV q_156 q_157 q_158 q_12 q_155) rfl rfl rfl hV_Jx4a65c_get_915e3 ⟨Nat.le_of_ble_eq_true rfl, Nat.le_of_ble_eq_true rfl⟩) ⟨pc_blind, va_recv hK hP (ci := 0) (q := (RJx4a65c, TJx4a65c, 3)) (q0 := 1) rfl rfl, fun U hU hW => ⟨rfl, hC121 U hU hW⟩⟩ rfl rfl hl.1 rfl (lv_room (Nat.le_of_ble_eq_true rfl)) dX0_reckonDelays_63 ⟨(Nat.le_of_ble_eq_true rfl), (Nat.le_of_ble_eq_true rfl)⟩) hS (fun q9 _ h9 => hF118 q9 h9) hF118 (fun u122 r123 t122 H122 L122 ht122 hvm122 hw122 hB122 hz122 hk122 hS => ?_)
  obtain ⟨hr122, hB122⟩ := hB122
  have hP := pq_keep hP hD [1, 2] rfl hk122 hB122.1 ht122
  have hG : s.heap.size + 0 ≤ H122.size := Nat.le_trans hG hz122
  refine W.eq (g2 := F0 m 66 ls [.ref h4]) (by rw [hr122]) ?_
  refine va_castE (nm := RX2) hx hb hown (hts _ q_89) (va_recv hK hP (ci := 3) (q := (RX2, TX2, 19)) (q0 := 4) rfl rfl) dX0_reckonDelays_66 ?_
  have hM126 := k109_lengthenWaysOfRead l hl9 dC dI z h4 h8 H122.size
  obtain ⟨hF124, hC127⟩ := pc_M hM126 hP hD hK hS hX hT hA [4, 8] [] rfl rfl rfl
  refine va_callv (va_runV (As := []) (rest := []) ⟨hx, hb, hml, hown, hts⟩ hM126 (cwV 0 hts (gV q_185 q_186 q_187 q_91 q_184) rfl rfl rfl hV_X2_lengthenWaysOfRead ⟨Nat.le_of_ble_eq_true rfl, Nat.le_of_ble_eq_true rfl⟩) ⟨pc_blind, va_recv hK hP (ci := 3) (q := (RX2, TX2, 19)) (q0 := 4) rfl rfl, fun U hU hW => ⟨rfl, hC127 U hU hW⟩⟩ rfl rfl hl.1 rfl (lv_room (Nat.le_of_ble_eq_true rfl)) dX0_reckonDelays_69 ⟨(Nat.le_of_ble_eq_true rfl), (Nat.le_of_ble_eq_true rfl)⟩) hS (fun q9 _ h9 => hF124 q9 h9) hF124 (fun u128 t128 H128 L128 ht128 hvm128 hw128 hB128 hz128 hk128 hS => ?_)
  have hP := pq_keep hP hD [4, 8] rfl hk128 hB128.1 ht128
  have hG : s.heap.size + 0 ≤ H128.size := Nat.le_trans hG hz128
  refine lv_iinc (v := 0) (lv' := [(1, .int 0), (2, .ref h6), (0, .ref h0)]) hx hb dX0_reckonDelays_72 hl (k := 0) rfl (by decide) (by decide) rfl (fun ls hl => ?_)
  refine lv_goto (tgt := 54) hx hb dX0_reckonDelays_75 (by decide) ?_
  refine lv_iload_n hx hb dX0_reckonDelays_54 rfl (lv_at hl 0 rfl) ?_
  refine lv_if_lt (tgt := 78) hx hb dX0_reckonDelays_55 (by decide) (fun cz => absurd cz (by decide)) (fun _ => ?_)
  refine lv_aload_n hx hb dX0_reckonDelays_58 rfl (lv_at hl 2 rfl) ?_
  refine va_get (D := (dC, dI)) (ci := 2) (v := .ref h1) (C := RX0) (T := TX0) (N := 4) hx hb hts in_X0 hown hK hP 0 rfl rfl 3 (by decide) (hts _ q_31) (fun _ h9 => h9) rfl dX0_reckonDelays_59 ?_
  refine lv_iload_n hx hb dX0_reckonDelays_62 rfl (lv_at hl 0 rfl) ?_
  have hM132 := k286_get l hl9 dC dI z h1 h2 h3 h4 h5 h6 H128.size kc0
  obtain ⟨hF130, hC133⟩ := pc_M hM132 hP hD hK hS hX hT hA [1, 2] [0] rfl rfl rfl
  refine va_callr (va_runV (As := [.int 0]) (rest := []) ⟨hx, hb, hml, hown, hts⟩ hM132 (cwV 1 hts (gV q_156 q_157 q_158 q_12 q_155) rfl rfl rfl hV_Jx4a65c_get_915e3 ⟨Nat.le_of_ble_eq_true rfl, Nat.le_of_ble_eq_true rfl⟩) ⟨pc_blind, va_recv hK hP (ci := 0) (q := (RJx4a65c, TJx4a65c, 3)) (q0 := 1) rfl rfl, fun U hU hW => ⟨rfl, hC133 U hU hW⟩⟩ rfl rfl hl.1 rfl (lv_room (Nat.le_of_ble_eq_true rfl)) dX0_reckonDelays_63 ⟨(Nat.le_of_ble_eq_true rfl), (Nat.le_of_ble_eq_true rfl)⟩) hS (fun q9 _ h9 => hF130 q9 h9) hF130 (fun u134 r135 t134 H134 L134 ht134 hvm134 hw134 hB134 hz134 hk134 hS => ?_)
  obtain ⟨hr134, hB134⟩ := hB134
  have hP := pq_keep hP hD [1, 2] rfl hk134 hB134.1 ht134
  have hG : s.heap.size + 0 ≤ H134.size := Nat.le_trans hG hz134
  refine W.eq (g2 := F0 m 66 ls [.ref h3]) (by rw [hr134]) ?_
  refine va_castE (nm := RX2) hx hb hown (hts _ q_89) (va_recv hK hP (ci := 3) (q := (RX2, TX2, 19)) (q0 := 3) rfl rfl) dX0_reckonDelays_66 ?_
  have hM138 := k36_lengthenWaysOfRead l hl9 dC dI z h3 h7 H134.size
  obtain ⟨hF136, hC139⟩ := pc_M hM138 hP hD hK hS hX hT hA [3, 7] [] rfl rfl rfl
  refine va_callv (va_runV (As := []) (rest := []) ⟨hx, hb, hml, hown, hts⟩ hM138 (cwV 0 hts (gV q_185 q_186 q_187 q_91 q_184) rfl rfl rfl hV_X2_lengthenWaysOfRead ⟨Nat.le_of_ble_eq_true rfl, Nat.le_of_ble_eq_true rfl⟩) ⟨pc_blind, va_recv hK hP (ci := 3) (q := (RX2, TX2, 19)) (q0 := 3) rfl rfl, fun U hU hW => ⟨rfl, hC139 U hU hW⟩⟩ rfl rfl hl.1 rfl (lv_room (Nat.le_of_ble_eq_true rfl)) dX0_reckonDelays_69 ⟨(Nat.le_of_ble_eq_true rfl), (Nat.le_of_ble_eq_true rfl)⟩) hS (fun q9 _ h9 => hF136 q9 h9) hF136 (fun u140 t140 H140 L140 ht140 hvm140 hw140 hB140 hz140 hk140 hS => ?_)
  have hP := pq_keep hP hD [3, 7] rfl hk140 hB140.1 ht140
  have hG : s.heap.size + 0 ≤ H140.size := Nat.le_trans hG hz140
  refine lv_iinc (v := (-1)) (lv' := [(1, .int (-1)), (2, .ref h6), (0, .ref h0)]) hx hb dX0_reckonDelays_72 hl (k := 0) rfl (by decide) (by decide) rfl (fun ls hl => ?_)
  refine lv_goto (tgt := 54) hx hb dX0_reckonDelays_75 (by decide) ?_
  refine lv_iload_n hx hb dX0_reckonDelays_54 rfl (lv_at hl 0 rfl) ?_
  refine lv_if_lt (tgt := 78) hx hb dX0_reckonDelays_55 (by decide) (fun _ => ?_) (fun cz => absurd (by decide) cz)
  exact W.vret hx hb hr (fun t9 ht9 hW9 => ⟨⟨(), rfl, trivial, ⟨pq_mk2 hP hD hK [0, 1, 2, 3, 4, 5, 6, 7, 8, 9, 10] [0] rfl rfl rfl ht9 hW9, by rw [ht9]; exact Nat.le_trans (Nat.add_le_add_left (Nat.le_of_ble_eq_true rfl) _) hG⟩⟩, hS.F ht9⟩) hS.2.2 dX0_reckonDelays_78
