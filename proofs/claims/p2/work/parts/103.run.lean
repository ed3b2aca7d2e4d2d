set_option maxHeartbeats 4000000 in
set_option maxRecDepth 100000 in
theorem k61_valueOf (l : Launch) (hl9 : l.stackTraces = false) (dC : Nat → ClassId) (dI : Nat → Nat → Nat) (z : XZ) (sz : Nat) : Met l yJ6_valueOf_2dffe (.code yJ6_valueOf_2dffe cJ6_valueOf_2dffe 1 (some (.object "java/lang/Integer")) :: wsL_law) ({ frames := 0, cells := 0, slots := 0, locals := 0 }) (va_Pc [.int 0] (PC (dC, dI) [] [] sz z)) (va_Qr (fun (_ : Unit) => True) (fun (_ : Unit) (ra : Nat) (t : State) => ra = (z.2.2.1 128) ∧ PG (dC, dI) [] [] (va_A [] sz) sz 0 t) (va_A [] sz)) 0 0 (va_A [] sz) := by
  refine Met.ofW (cc := cJ6_valueOf_2dffe) (maxL := 1) (ret := (some (.object "java/lang/Integer"))) (by decide) rfl ?_
  intro p e s m args below meth c s₁ B hml hv
  obtain ⟨rfl, hsz, hP, hK, hD0, hX, hT⟩ := hv
  have hx := B.exec
  have hb := B.bytes
  have hr := B.returns
  have hts0 := atoms_spec (ws := .code yJ6_valueOf_2dffe cJ6_valueOf_2dffe 1 (some (.object "java/lang/Integer")) :: wsL_law) B.pre
  have hts := xTail hts0
  have hown : s.vm.findClass RJ6 = some m.cls := findClass_of_methodNamed B.named
  have hlocks := B.notSynchronized
  subst hsz
  have hD := hD0.self (sz := s.heap.size)
  generalize hAe : va_A [] s.heap.size = A at hD hX ⊢
  have hA : ∀ q : Nat, s.heap.size ≤ q → A q := fun q h => by rw [← hAe]; exact Or.inr h
  have hS : va_S A s.heap s.heap [] := va_S.rf
  have hG : s.heap.size + 0 ≤ s.heap.size := Nat.le_refl _
  have hl := lv_entry ([.int 0]) (n := 1) (Nat.le_of_ble_eq_true rfl)
  rw [lg_entry_eq]
  generalize (lg_sl ([.int 0]) ++ List.replicate (1 - (lg_sl ([.int 0])).length) Slot.unset).toArray = ls at hl ⊢
  have hl : lv_has ls 1 [(0, .int 0)] := hl
  refine lv_iload_n hx hb dJ6_valueOf_2dffe_0 rfl (lv_at hl 0 rfl) ?_
  refine lv_bipush (v := (-128)) hx hb dJ6_valueOf_2dffe_1 (by decide) ?_
  refine lv_icmp_lt (tgt := 23) hx hb dJ6_valueOf_2dffe_3 (by decide) (fun cz => absurd cz (by decide)) (fun _ => ?_)
  refine lv_iload_n hx hb dJ6_valueOf_2dffe_6 rfl (lv_at hl 0 rfl) ?_
  refine va_gets (own := RJ6) (ref := "java/lang/Integer$IntegerCache") hx hb hX.2.2.1.2.1 hS hown (hts _ q_275) (fun _ h9 => h9) dJ6_valueOf_2dffe_7 ?_
  refine lv_icmp_gt (tgt := 23) hx hb dJ6_valueOf_2dffe_10 (by decide) (fun cz => absurd cz (by decide)) (fun _ => ?_)
  refine va_gets (own := RJ6) (ref := "java/lang/Integer$IntegerCache") hx hb hX.2.2.1.2.2.1 hS hown (hts _ q_276) (fun _ h9 => h9) dJ6_valueOf_2dffe_13 ?_
  refine lv_iload_n hx hb dJ6_valueOf_2dffe_16 rfl (lv_at hl 0 rfl) ?_
  refine lv_sipush (v := 128) hx hb dJ6_valueOf_2dffe_17 (by decide) ?_
  refine lv_iadd hx hb dJ6_valueOf_2dffe_20 ?_
  refine lv_topi (fun y1 ey1 => ?_)
  obtain rfl : y1 = 128 := ey1.trans (by decide)
  refine vb_tq hx hb hX.2.2.1.2.2.2 hS (i := 128) (by unfold vp_in; decide) (v := .ref (z.2.2.1 128)) rfl dJ6_valueOf_2dffe_21 ?_
  exact W.aret (v := .ref (z.2.2.1 128)) hx hb hr (by first | exact Or.inl ⟨_, rfl⟩ | exact Or.inr ⟨_, rfl⟩) (Or.inr ⟨_, rfl⟩) (fun t9 ht9 hW9 => ⟨⟨(), (z.2.2.1 128), rfl, trivial, ⟨rfl, ⟨pq_mk (wc := []) (tc := []) hP hD hK [] [] rfl rfl rfl rfl ht9 hW9, by rw [ht9]; exact Nat.le_trans (Nat.add_le_add_left (Nat.le_of_ble_eq_true rfl) _) hG⟩⟩⟩, hS.F ht9⟩) hS.2.2 dJ6_valueOf_2dffe_22

set_option maxHeartbeats 4000000 in
set_option maxRecDepth 100000 in
theorem k62_add (l : Launch) (hl9 : l.stackTraces = false) (dC : Nat → ClassId) (dI : Nat → Nat → Nat) (z : XZ) (h0 : Nat) (sz : Nat) : Met l yJx4a65c_add_72be8 (.code yJx4a65c_add_72be8 cJx4a65c_add_72be8 4 none :: wsL_law) ({ frames := 3, cells := 1, slots := 10, locals := 65 }) (va_Pc [.ref h0, .ref (z.2.2.1 128), .ref z.1, .int 0] (PC (dC, dI) [(h0, .inr (0, [.int 2, .ref z.1, .int 0]))] [] sz z)) (va_Qv (fun (_ : Unit) => True) (fun (_ : Unit) (t : State) => ∃ (n0 : Nat), ∃ (m0 : ClassId), PG (dC, dI) [(h0, .inr (0, [.int 2, .ref n0, .int 1])), (n0, .inl (m0, 10, .inr (.inr (.inr (.inr (va_up (fun _ => none) 0 (some (z.2.2.1 128))))))))] [(m0, .object "java/lang/Object")] (va_A [(h0, .inr (0, [.int 2, .ref z.1, .int 0]))] sz) sz 1 t) (va_A [(h0, .inr (0, [.int 2, .ref z.1, .int 0]))] sz)) 1 10 (va_A [(h0, .inr (0, [.int 2, .ref z.1, .int 0]))] sz) := by
  refine Met.ofW (cc := cJx4a65c_add_72be8) (maxL := 4) (ret := none) (by decide) rfl ?_
  intro p e s m args below meth c s₁ B hml hv
  obtain ⟨rfl, hsz, hP, hK, hD0, hX, hT⟩ := hv
  have hx := B.exec
  have hb := B.bytes
  have hr := B.returns
  have hts0 := atoms_spec (ws := .code yJx4a65c_add_72be8 cJx4a65c_add_72be8 4 none :: wsL_law) B.pre
  have hts := xTail hts0
  have hown : s.vm.findClass RJx4a65c = some m.cls := findClass_of_methodNamed B.named
  have hlocks := B.notSynchronized
  subst hsz
  have hD := hD0.self (sz := s.heap.size)
  generalize hAe : va_A [(h0, .inr (0, [.int 2, .ref z.1, .int 0]))] s.heap.size = A at hD hX ⊢
  have hA : ∀ q : Nat, s.heap.size ≤ q → A q := fun q h => by rw [← hAe]; exact Or.inr h
  have hS : va_S A s.heap s.heap [] := va_S.rf
  have hG : s.heap.size + 0 ≤ s.heap.size := Nat.le_refl _
  have hl := lv_entry ([.ref h0, .ref (z.2.2.1 128), .ref z.1, .int 0]) (n := 4) (Nat.le_of_ble_eq_true rfl)
  rw [lg_entry_eq]
  generalize (lg_sl ([.ref h0, .ref (z.2.2.1 128), .ref z.1, .int 0]) ++ List.replicate (4 - (lg_sl ([.ref h0, .ref (z.2.2.1 128), .ref z.1, .int 0])).length) Slot.unset).toArray = ls at hl ⊢
  have hl : lv_has ls 4 [(0, .ref h0), (1, .ref (z.2.2.1 128)), (2, .ref z.1), (3, .int 0)] := hl
  refine lv_iload_n hx hb dJx4a65c_add_72be8_0 rfl (lv_at hl 3 rfl) ?_
  refine lv_aload_n hx hb dJx4a65c_add_72be8_1 rfl (lv_at hl 2 rfl) ?_
  refine va_tlen hx hb hX.1.2 hS (v := 0) rfl dJx4a65c_add_72be8_2 ?_
  refine lv_icmp_ne (tgt := 11) hx hb dJx4a65c_add_72be8_3 (by decide) (fun cz => absurd (by decide) cz) (fun _ => ?_)
  refine lv_aload_n hx hb dJx4a65c_add_72be8_6 rfl (lv_at hl 0 rfl) ?_
  have hF1 := va_free (wc := [(h0, .inr (0, [.int 2, .ref z.1, .int 0]))]) hD hS hA [0] rfl
  refine va_callr (va_runV (As := []) (rest := []) ⟨hx, hb, hml, hown, hts⟩ (k26_grow l hl9 dC dI z h0 s.heap.size) (cwV 0 hts (gV q_101 q_102 q_103 q_9 q_100) rfl rfl rfl (by decide +kernel) ⟨Nat.le_of_ble_eq_true rfl, Nat.le_of_ble_eq_true rfl⟩) ⟨pc_blind, va_recv hK hP (ci := 0) (q0 := 0) rfl rfl, fun U hU hW => ⟨rfl, pc_mk hP hD hK hS hX hT [0] [] rfl rfl rfl rfl hF1 hU hW⟩⟩ rfl rfl hl.1 rfl (lv_room (Nat.le_of_ble_eq_true rfl)) dJx4a65c_add_72be8_7 ⟨(Nat.le_of_ble_eq_true rfl), (Nat.le_of_ble_eq_true rfl)⟩) hS (fun q9 _ h9 => hF1 q9 h9) hF1 (fun u3 r4 t3 H3 L3 ht3 hvm3 hw3 hB3 hz3 hk3 hS => ?_)
  obtain ⟨a5, k6, hr3, hB3⟩ := hB3
  obtain ⟨hP, hD, hK⟩ := pq_join (wr := []) (tr := []) (wz := [(h0, .inr (0, [.int 2, .ref a5, .int 0])), (a5, .inl (k6, 10, .inr (.inr (.inr (.inr (fun _ => none))))))]) (tz := [(k6, .object "java/lang/Object")]) hP hD hK [0] [] [] rfl rfl (by decide) (by decide) rfl hk3 hF1 hB3.1 ht3 hvm3 rfl rfl
  have hG : s.heap.size + 1 ≤ H3.size := va_gr (g := 0) (g1 := 1) hG (by rw [← ht3]; exact hB3.2)
  refine W.eq (g2 := F0 m 10 ls [.ref a5]) (by rw [hr3]) ?_
  refine W.widen (k := 1) (n := 10) (by decide) (by decide) ?_
  refine lv_astore_n (lv' := [(2, .ref a5), (0, .ref h0), (1, .ref (z.2.2.1 128)), (3, .int 0)]) hx hb dJx4a65c_add_72be8_10 rfl hl (by decide) rfl (fun ls hl => ?_)
  refine lv_aload_n hx hb dJx4a65c_add_72be8_11 rfl (lv_at hl 0 rfl) ?_
  refine lv_iload_n hx hb dJx4a65c_add_72be8_12 rfl (lv_at hl 3 rfl) ?_
  refine lv_aload_n hx hb dJx4a65c_add_72be8_13 rfl (lv_at hl 2 rfl) ?_
  refine vb_astq (E := "java/lang/Object") (C := "java/lang/Integer") hx hb hK hP hD (va_Sre hS) 1 0 rfl rfl (va_Orecv (hX.2.2.1.1.1 128 (by decide)) hS) (vb_asgC (hT.2.1.1 ("java/lang/Integer", "java/lang/Object") (by decide))) (i := 0) (by unfold vp_in; decide) dJx4a65c_add_72be8_14 (fun H7 _ hP hD hS' => ?_)
  have hG : s.heap.size + 1 ≤ H7.size := Nat.le_trans hG hS'.1
  have hS := va_Str hS hS'
  have hP : va_P (dC, dI) xCl [(h0, .inr (0, [.int 2, .ref a5, .int 0])), (a5, .inl (k6, 10, .inr (.inr (.inr (.inr (va_up (fun _ => none) 0 (some (z.2.2.1 128))))))))] H7 := hP
  have hD : va_D A [(h0, .inr (0, [.int 2, .ref a5, .int 0])), (a5, .inl (k6, 10, .inr (.inr (.inr (.inr (va_up (fun _ => none) 0 (some (z.2.2.1 128))))))))] := hD
  refine lv_aload_n hx hb dJx4a65c_add_72be8_15 rfl (lv_at hl 1 rfl) ?_
  refine lv_iload_n hx hb dJx4a65c_add_72be8_16 rfl (lv_at hl 3 rfl) ?_
  refine lv_iconst (v := 1) hx hb dJx4a65c_add_72be8_17 (by decide) ?_
  refine lv_iadd hx hb dJx4a65c_add_72be8_18 ?_
  refine lv_topi (fun y8 ey8 => ?_)
  obtain rfl : y8 = 1 := ey8.trans (by decide)
  refine va_put (D := (dC, dI)) (ci := 0) (v := .int 1) (ty := .int) (C := RJx4a65c) (T := TJx4a65c) (N := 3) hx hb hts in_Jx4a65c tyJx4a65c tyJx4a65c_ok nmJx4a65c hown hK hP hD (va_Sre hS) 0 rfl rfl 2 (by decide) (hts _ q_60) (fun _ h9 => h9) rfl (by decide +kernel) rfl rfl (Nat.le_of_ble_eq_true rfl) dJx4a65c_add_72be8_19 (fun H9 _ hP hD hS' => ?_)
  have hG : s.heap.size + 1 ≤ H9.size := Nat.le_trans hG hS'.1
  have hS := va_Str hS hS'
  have hP : va_P (dC, dI) xCl [(h0, .inr (0, [.int 2, .ref a5, .int 1])), (a5, .inl (k6, 10, .inr (.inr (.inr (.inr (va_up (fun _ => none) 0 (some (z.2.2.1 128))))))))] H9 := hP
  have hD : va_D A [(h0, .inr (0, [.int 2, .ref a5, .int 1])), (a5, .inl (k6, 10, .inr (.inr (.inr (.inr (va_up (fun _ => none) 0 (some (z.2.2.1 128))))))))] := hD
  exact W.vret hx hb hr (fun t9 ht9 hW9 => ⟨⟨(), rfl, trivial, ⟨a5, k6, ⟨pq_mk (wc := [(h0, .inr (0, [.int 2, .ref a5, .int 1])), (a5, .inl (k6, 10, .inr (.inr (.inr (.inr (va_up (fun _ => none) 0 (some (z.2.2.1 128))))))))]) (tc := [(k6, .object "java/lang/Object")]) hP hD hK [0, 1] [0] rfl rfl rfl rfl ht9 hW9, by rw [ht9]; exact Nat.le_trans (Nat.add_le_add_left (Nat.le_of_ble_eq_true rfl) _) hG⟩⟩⟩, hS.F ht9⟩) hS.2.2 dJx4a65c_add_72be8_22

set_option maxHeartbeats 4000000 in
set_option maxRecDepth 100000 in
theorem k63_add (l : Launch) (hl9 : l.stackTraces = false) (dC : Nat → ClassId) (dI : Nat → Nat → Nat) (z : XZ) (h0 : Nat) (sz : Nat) : Met l yJx4a65c_add_9ea2d (.code yJx4a65c_add_9ea2d cJx4a65c_add_9ea2d 2 (some .boolean) :: wsL_law) ({ frames := 4, cells := 1, slots := 10, locals := 88 }) (va_Pc [.ref h0, .ref (z.2.2.1 128)] (PC (dC, dI) [(h0, .inr (0, [.int 1, .ref z.1, .int 0]))] [] sz z)) (va_Qi (fun (r : Int32) (_ : Unit) => r = 1) (fun (_ : Unit) (t : State) => ∃ (n0 : Nat), ∃ (m0 : ClassId), PG (dC, dI) [(h0, .inr (0, [.int 2, .ref n0, .int 1])), (n0, .inl (m0, 10, .inr (.inr (.inr (.inr (va_up (fun _ => none) 0 (some (z.2.2.1 128))))))))] [(m0, .object "java/lang/Object")] (va_A [(h0, .inr (0, [.int 1, .ref z.1, .int 0]))] sz) sz 1 t) (va_A [(h0, .inr (0, [.int 1, .ref z.1, .int 0]))] sz)) 1 10 (va_A [(h0, .inr (0, [.int 1, .ref z.1, .int 0]))] sz) := by
  refine Met.ofW (cc := cJx4a65c_add_9ea2d) (maxL := 2) (ret := (some .boolean)) (by decide) rfl ?_
  intro p e s m args below meth c s₁ B hml hv
  obtain ⟨rfl, hsz, hP, hK, hD0, hX, hT⟩ := hv
  have hx := B.exec
  have hb := B.bytes
  have hr := B.returns
  have hts0 := atoms_spec (ws := .code yJx4a65c_add_9ea2d cJx4a65c_add_9ea2d 2 (some .boolean) :: wsL_law) B.pre
  have hts := xTail hts0
  have hown : s.vm.findClass RJx4a65c = some m.cls := findClass_of_methodNamed B.named
  have hlocks := B.notSynchronized
  subst hsz
  have hD := hD0.self (sz := s.heap.size)
  generalize hAe : va_A [(h0, .inr (0, [.int 1, .ref z.1, .int 0]))] s.heap.size = A at hD hX ⊢
  have hA : ∀ q : Nat, s.heap.size ≤ q → A q := fun q h => by rw [← hAe]; exact Or.inr h
  have hS : va_S A s.heap s.heap [] := va_S.rf
  have hG : s.heap.size + 0 ≤ s.heap.size := Nat.le_refl _
  have hl := lv_entry ([.ref h0, .ref (z.2.2.1 128)]) (n := 2) (Nat.le_of_ble_eq_true rfl)
  rw [lg_entry_eq]
  generalize (lg_sl ([.ref h0, .ref (z.2.2.1 128)]) ++ List.replicate (2 - (lg_sl ([.ref h0, .ref (z.2.2.1 128)])).length) Slot.unset).toArray = ls at hl ⊢
  have hl : lv_has ls 2 [(0, .ref h0), (1, .ref (z.2.2.1 128))] := hl
  refine lv_aload_n hx hb dJx4a65c_add_9ea2d_0 rfl (lv_at hl 0 rfl) ?_
  refine lv_dup hx hb dJx4a65c_add_9ea2d_1 rfl ?_
  refine va_get (D := (dC, dI)) (ci := 0) (v := .int 1) (C := RJx4a65c) (T := TJx4a65c) (N := 3) hx hb hts in_Jx4a65c hown hK hP 0 rfl rfl 0 (by decide) (hts _ q_90) (u_same (hts _ q_89)) rfl dJx4a65c_add_9ea2d_2 ?_
  refine lv_iconst (v := 1) hx hb dJx4a65c_add_9ea2d_5 (by decide) ?_
  refine lv_iadd hx hb dJx4a65c_add_9ea2d_6 ?_
  refine lv_topi (fun y1 ey1 => ?_)
  obtain rfl : y1 = 2 := ey1.trans (by decide)
  refine va_put (D := (dC, dI)) (ci := 0) (v := .int 2) (ty := .int) (C := RJx4a65c) (T := TJx4a65c) (N := 3) hx hb hts in_Jx4a65c tyJx4a65c tyJx4a65c_ok nmJx4a65c hown hK hP hD (va_Sre hS) 0 rfl rfl 0 (by decide) (hts _ q_90) (u_same (hts _ q_89)) rfl (by decide +kernel) rfl rfl (Nat.le_of_ble_eq_true rfl) dJx4a65c_add_9ea2d_7 (fun H2 _ hP hD hS' => ?_)
  have hG : s.heap.size + 0 ≤ H2.size := Nat.le_trans hG hS'.1
  have hS := va_Str hS hS'
  have hP : va_P (dC, dI) xCl [(h0, .inr (0, [.int 2, .ref z.1, .int 0]))] H2 := hP
  have hD : va_D A [(h0, .inr (0, [.int 2, .ref z.1, .int 0]))] := hD
  refine lv_aload_n hx hb dJx4a65c_add_9ea2d_10 rfl (lv_at hl 0 rfl) ?_
  refine lv_aload_n hx hb dJx4a65c_add_9ea2d_11 rfl (lv_at hl 1 rfl) ?_
  refine lv_aload_n hx hb dJx4a65c_add_9ea2d_12 rfl (lv_at hl 0 rfl) ?_
  refine va_get (D := (dC, dI)) (ci := 0) (v := .ref z.1) (C := RJx4a65c) (T := TJx4a65c) (N := 3) hx hb hts in_Jx4a65c hown hK hP 0 rfl rfl 1 (by decide) (hts _ q_21) (fun _ h9 => h9) rfl dJx4a65c_add_9ea2d_13 ?_
  refine lv_aload_n hx hb dJx4a65c_add_9ea2d_16 rfl (lv_at hl 0 rfl) ?_
  refine va_get (D := (dC, dI)) (ci := 0) (v := .int 0) (C := RJx4a65c) (T := TJx4a65c) (N := 3) hx hb hts in_Jx4a65c hown hK hP 0 rfl rfl 2 (by decide) (hts _ q_60) (fun _ h9 => h9) rfl dJx4a65c_add_9ea2d_17 ?_
  have hF3 := va_free (wc := [(h0, .inr (0, [.int 2, .ref z.1, .int 0]))]) hD hS hA [0] rfl
  refine va_callv (va_runV (As := [.ref (z.2.2.1 128), .ref z.1, .int 0]) (rest := []) ⟨hx, hb, hml, hown, hts⟩ (k62_add l hl9 dC dI z h0 H2.size) (cwV 3 hts (gV q_105 q_106 q_107 q_9 q_104) rfl rfl rfl (by decide +kernel) ⟨Nat.le_of_ble_eq_true rfl, Nat.le_of_ble_eq_true rfl⟩) ⟨pc_blind, va_recv hK hP (ci := 0) (q0 := 0) rfl rfl, fun U hU hW => ⟨rfl, pc_mk hP hD hK hS hX hT [0] [] rfl rfl rfl rfl hF3 hU hW⟩⟩ rfl rfl hl.1 rfl (lv_room (Nat.le_of_ble_eq_true rfl)) dJx4a65c_add_9ea2d_20 ⟨(Nat.le_of_ble_eq_true rfl), (Nat.le_of_ble_eq_true rfl)⟩) hS (fun q9 _ h9 => hF3 q9 h9) hF3 (fun u5 t5 H5 L5 ht5 hvm5 hw5 hB5 hz5 hk5 hS => ?_)
  obtain ⟨a7, k8, hB5⟩ := hB5
  obtain ⟨hP, hD, hK⟩ := pq_join (wr := []) (tr := []) (wz := [(h0, .inr (0, [.int 2, .ref a7, .int 1])), (a7, .inl (k8, 10, .inr (.inr (.inr (.inr (va_up (fun _ => none) 0 (some (z.2.2.1 128))))))))]) (tz := [(k8, .object "java/lang/Object")]) hP hD hK [0] [] [] rfl rfl (by decide) (by decide) rfl hk5 hF3 hB5.1 ht5 hvm5 rfl rfl
  have hG : s.heap.size + 1 ≤ H5.size := va_gr (g := 0) (g1 := 1) hG (by rw [← ht5]; exact hB5.2)
  refine W.widen (k := 1) (n := 10) (by decide) (by decide) ?_
  refine lv_iconst (v := 1) hx hb dJx4a65c_add_9ea2d_23 (by decide) ?_
  exact W.zret (v := 1) (ty := .boolean) hx hb hr rfl (fun t9 ht9 hW9 => ⟨⟨1, (), rfl, rfl, ⟨a7, k8, ⟨pq_mk (wc := [(h0, .inr (0, [.int 2, .ref a7, .int 1])), (a7, .inl (k8, 10, .inr (.inr (.inr (.inr (va_up (fun _ => none) 0 (some (z.2.2.1 128))))))))]) (tc := [(k8, .object "java/lang/Object")]) hP hD hK [0, 1] [0] rfl rfl rfl rfl ht9 hW9, by rw [ht9]; exact Nat.le_trans (Nat.add_le_add_left (Nat.le_of_ble_eq_true rfl) _) hG⟩⟩⟩, hS.F ht9⟩) hS.2.2 dJx4a65c_add_9ea2d_24

set_option maxHeartbeats 4000000 in
set_option maxRecDepth 100000 in
theorem k64_size (l : Launch) (hl9 : l.stackTraces = false) (dC : Nat → ClassId) (dI : Nat → Nat → Nat) (z : XZ) (h0 h1 : Nat) (sz : Nat) (p0 p1 : Int32) (kc0 : ClassId) : Met l yJx4a65c_size_8abf5 (.code yJx4a65c_size_8abf5 cJx4a65c_size_8abf5 1 (some .int) :: wsL_law) ({ frames := 0, cells := 0, slots := 0, locals := 0 }) (va_Pc [.ref h0] (PC (dC, dI) [(h0, .inr (0, [.int p0, .ref h1, .int p1])), (h1, .inl (kc0, 10, .inr (.inr (.inr (.inr (va_up (fun _ => none) 0 (some (z.2.2.1 128))))))))] [(kc0, .object "java/lang/Object")] sz z)) (va_Qi (fun (r : Int32) (_ : Unit) => r = p1) (fun (_ : Unit) (t : State) => PG (dC, dI) [(h0, .inr (0, [.int p0, .ref h1, .int p1])), (h1, .inl (kc0, 10, .inr (.inr (.inr (.inr (va_up (fun _ => none) 0 (some (z.2.2.1 128))))))))] [(kc0, .object "java/lang/Object")] (va_A [(h0, .inr (0, [.int p0, .ref h1, .int p1])), (h1, .inl (kc0, 10, .inr (.inr (.inr (.inr (va_up (fun _ => none) 0 (some (z.2.2.1 128))))))))] sz) sz 0 t) (va_A [(h0, .inr (0, [.int p0, .ref h1, .int p1])), (h1, .inl (kc0, 10, .inr (.inr (.inr (.inr (va_up (fun _ => none) 0 (some (z.2.2.1 128))))))))] sz)) 0 0 (va_A [(h0, .inr (0, [.int p0, .ref h1, .int p1])), (h1, .inl (kc0, 10, .inr (.inr (.inr (.inr (va_up (fun _ => none) 0 (some (z.2.2.1 128))))))))] sz) := by
  refine Met.ofW (cc := cJx4a65c_size_8abf5) (maxL := 1) (ret := (some .int)) (by decide) rfl ?_
  intro p e s m args below meth c s₁ B hml hv
  obtain ⟨rfl, hsz, hP, hK, hD0, hX, hT⟩ := hv
  have hx := B.exec
  have hb := B.bytes
  have hr := B.returns
  have hts0 := atoms_spec (ws := .code yJx4a65c_size_8abf5 cJx4a65c_size_8abf5 1 (some .int) :: wsL_law) B.pre
  have hts := xTail hts0
  have hown : s.vm.findClass RJx4a65c = some m.cls := findClass_of_methodNamed B.named
  have hlocks := B.notSynchronized
  subst hsz
  have hD := hD0.self (sz := s.heap.size)
  generalize hAe : va_A [(h0, .inr (0, [.int p0, .ref h1, .int p1])), (h1, .inl (kc0, 10, .inr (.inr (.inr (.inr (va_up (fun _ => none) 0 (some (z.2.2.1 128))))))))] s.heap.size = A at hD hX ⊢
  have hA : ∀ q : Nat, s.heap.size ≤ q → A q := fun q h => by rw [← hAe]; exact Or.inr h
  have hS : va_S A s.heap s.heap [] := va_S.rf
  have hG : s.heap.size + 0 ≤ s.heap.size := Nat.le_refl _
  have hl := lv_entry ([.ref h0]) (n := 1) (Nat.le_of_ble_eq_true rfl)
  rw [lg_entry_eq]
  generalize (lg_sl ([.ref h0]) ++ List.replicate (1 - (lg_sl ([.ref h0])).length) Slot.unset).toArray = ls at hl ⊢
  have hl : lv_has ls 1 [(0, .ref h0)] := hl
  refine lv_aload_n hx hb dJx4a65c_size_8abf5_0 rfl (lv_at hl 0 rfl) ?_
  refine va_get (D := (dC, dI)) (ci := 0) (v := .int p1) (C := RJx4a65c) (T := TJx4a65c) (N := 3) hx hb hts in_Jx4a65c hown hK hP 0 rfl rfl 2 (by decide) (hts _ q_60) (fun _ h9 => h9) rfl dJx4a65c_size_8abf5_1 ?_
  exact W.iret (v := p1) hx hb hr (fun t9 ht9 hW9 => ⟨⟨p1, (), rfl, rfl, ⟨pq_mk (wc := [(h0, .inr (0, [.int p0, .ref h1, .int p1])), (h1, .inl (kc0, 10, .inr (.inr (.inr (.inr (va_up (fun _ => none) 0 (some (z.2.2.1 128))))))))]) (tc := [(kc0, .object "java/lang/Object")]) hP hD hK [0, 1] [0] rfl rfl rfl rfl ht9 hW9, by rw [ht9]; exact Nat.le_trans (Nat.add_le_add_left (Nat.le_of_ble_eq_true rfl) _) hG⟩⟩, hS.F ht9⟩) hS.2.2 dJx4a65c_size_8abf5_4

set_option maxHeartbeats 4000000 in
set_option maxRecDepth 100000 in
theorem k65_putInOrder (l : Launch) (hl9 : l.stackTraces = false) (dC : Nat → ClassId) (dI : Nat → Nat → Nat) (z : XZ) (h0 h1 h2 h3 h4 h5 h6 : Nat) (sz : Nat) (kc0 : ClassId) : Met l yX9_putInOrder (.code yX9_putInOrder cX9_putInOrder 6 none :: wsL_law) ({ frames := 5, cells := 3, slots := 54, locals := 109 }) (va_Pc [.ref h0] (PC (dC, dI) [(h0, .inr (8, [.int 0, .ref h1, .ref h2, .ref h3, .ref h4, .int 0])), (h1, .inr (0, [.int 1, .ref h5, .int 1])), (h2, .inr (0, [.int 0, .ref z.1, .int 0])), (h3, .inr (0, [.int 0, .ref z.1, .int 0])), (h4, .inr (0, [.int 0, .ref z.1, .int 0])), (h5, .inl (kc0, 10, .inr (.inr (.inr (.inr (va_up (fun _ => none) 0 (some h6))))))), (h6, .inr (7, [.int 98, .int 120, .int 0, .int (-1), .int 0, .int (-1)]))] [(kc0, .object "java/lang/Object")] sz z)) (va_Qv (fun (_ : Unit) => True) (fun (_ : Unit) (t : State) => ∃ (n0 : Nat), ∃ (m0 : ClassId), PG (dC, dI) [(h0, .inr (8, [.int 0, .ref h1, .ref h2, .ref h3, .ref h4, .int 0])), (h1, .inr (0, [.int 1, .ref h5, .int 1])), (h2, .inr (0, [.int 0, .ref z.1, .int 0])), (h3, .inr (0, [.int 0, .ref z.1, .int 0])), (h4, .inr (0, [.int 2, .ref n0, .int 1])), (h5, .inl (kc0, 10, .inr (.inr (.inr (.inr (va_up (fun _ => none) 0 (some h6))))))), (h6, .inr (7, [.int 98, .int 120, .int 0, .int (-1), .int 0, .int (-1)])), (n0, .inl (m0, 10, .inr (.inr (.inr (.inr (va_up (fun _ => none) 0 (some (z.2.2.1 128))))))))] [(kc0, .object "java/lang/Object"), (m0, .object "java/lang/Object")] (va_A [(h0, .inr (8, [.int 0, .ref h1, .ref h2, .ref h3, .ref h4, .int 0])), (h1, .inr (0, [.int 1, .ref h5, .int 1])), (h2, .inr (0, [.int 0, .ref z.1, .int 0])), (h3, .inr (0, [.int 0, .ref z.1, .int 0])), (h4, .inr (0, [.int 0, .ref z.1, .int 0])), (h5, .inl (kc0, 10, .inr (.inr (.inr (.inr (va_up (fun _ => none) 0 (some h6))))))), (h6, .inr (7, [.int 98, .int 120, .int 0, .int (-1), .int 0, .int (-1)]))] sz) sz 3 t) (va_A [(h0, .inr (8, [.int 0, .ref h1, .ref h2, .ref h3, .ref h4, .int 0])), (h1, .inr (0, [.int 1, .ref h5, .int 1])), (h2, .inr (0, [.int 0, .ref z.1, .int 0])), (h3, .inr (0, [.int 0, .ref z.1, .int 0])), (h4, .inr (0, [.int 0, .ref z.1, .int 0])), (h5, .inl (kc0, 10, .inr (.inr (.inr (.inr (va_up (fun _ => none) 0 (some h6))))))), (h6, .inr (7, [.int 98, .int 120, .int 0, .int (-1), .int 0, .int (-1)]))] sz)) 3 54 (va_A [(h0, .inr (8, [.int 0, .ref h1, .ref h2, .ref h3, .ref h4, .int 0])), (h1, .inr (0, [.int 1, .ref h5, .int 1])), (h2, .inr (0, [.int 0, .ref z.1, .int 0])), (h3, .inr (0, [.int 0, .ref z.1, .int 0])), (h4, .inr (0, [.int 0, .ref z.1, .int 0])), (h5, .inl (kc0, 10, .inr (.inr (.inr (.inr (va_up (fun _ => none) 0 (some h6))))))), (h6, .inr (7, [.int 98, .int 120, .int 0, .int (-1), .int 0, .int (-1)]))] sz) := by
  refine Met.ofW (cc := cX9_putInOrder) (maxL := 6) (ret := none) (by decide) rfl ?_
  intro p e s m args below meth c s₁ B hml hv
  obtain ⟨rfl, hsz, hP, hK, hD0, hX, hT⟩ := hv
  have hx := B.exec
  have hb := B.bytes
  have hr := B.returns
  have hts0 := atoms_spec (ws := .code yX9_putInOrder cX9_putInOrder 6 none :: wsL_law) B.pre
  have hts := xTail hts0
  have hown : s.vm.findClass RX9 = some m.cls := findClass_of_methodNamed B.named
  have hlocks := B.notSynchronized
  subst hsz
  have hD := hD0.self (sz := s.heap.size)
  generalize hAe : va_A [(h0, .inr (8, [.int 0, .ref h1, .ref h2, .ref h3, .ref h4, .int 0])), (h1, .inr (0, [.int 1, .ref h5, .int 1])), (h2, .inr (0, [.int 0, .ref z.1, .int 0])), (h3, .inr (0, [.int 0, .ref z.1, .int 0])), (h4, .inr (0, [.int 0, .ref z.1, .int 0])), (h5, .inl (kc0, 10, .inr (.inr (.inr (.inr (va_up (fun _ => none) 0 (some h6))))))), (h6, .inr (7, [.int 98, .int 120, .int 0, .int (-1), .int 0, .int (-1)]))] s.heap.size = A at hD hX ⊢
  have hA : ∀ q : Nat, s.heap.size ≤ q → A q := fun q h => by rw [← hAe]; exact Or.inr h
  have hS : va_S A s.heap s.heap [] := va_S.rf
  have hG : s.heap.size + 0 ≤ s.heap.size := Nat.le_refl _
  have hl := lv_entry ([.ref h0]) (n := 6) (Nat.le_of_ble_eq_true rfl)
  rw [lg_entry_eq]
  generalize (lg_sl ([.ref h0]) ++ List.replicate (6 - (lg_sl ([.ref h0])).length) Slot.unset).toArray = ls at hl ⊢
  have hl : lv_has ls 6 [(0, .ref h0)] := hl
  refine lv_bipush (v := 40) hx hb dX9_putInOrder_0 (by decide) ?_
  refine xa_newa (atype := .boolean) hx hb (hts _ q_253) rfl hK hP hD hS hA (n := 40) (N' := 40) (a0 := (40, .inl (fun _ => 0))) (fun _ => rfl) (by decide) (by decide) (Nat.le_of_ble_eq_true rfl) (Nat.le_of_ble_eq_true rfl) (Nat.le_of_ble_eq_true rfl) dX9_putInOrder_2 (fun a1 k2 H3 hg8 hK hP hD hS => ?_)
  have hG : s.heap.size + 1 ≤ H3.size := by rw [hg8]; exact Nat.succ_le_succ hG
  have hK : va_K (dC, dI) xCl [(kc0, .object "java/lang/Object"), (k2, .boolean)] s := hK
  have hP : va_P (dC, dI) xCl [(h0, .inr (8, [.int 0, .ref h1, .ref h2, .ref h3, .ref h4, .int 0])), (h1, .inr (0, [.int 1, .ref h5, .int 1])), (h2, .inr (0, [.int 0, .ref z.1, .int 0])), (h3, .inr (0, [.int 0, .ref z.1, .int 0])), (h4, .inr (0, [.int 0, .ref z.1, .int 0])), (h5, .inl (kc0, 10, .inr (.inr (.inr (.inr (va_up (fun _ => none) 0 (some h6))))))), (h6, .inr (7, [.int 98, .int 120, .int 0, .int (-1), .int 0, .int (-1)])), (a1, .inl (k2, 40, .inl (fun _ => 0)))] H3 := hP
  have hD : va_D A [(h0, .inr (8, [.int 0, .ref h1, .ref h2, .ref h3, .ref h4, .int 0])), (h1, .inr (0, [.int 1, .ref h5, .int 1])), (h2, .inr (0, [.int 0, .ref z.1, .int 0])), (h3, .inr (0, [.int 0, .ref z.1, .int 0])), (h4, .inr (0, [.int 0, .ref z.1, .int 0])), (h5, .inl (kc0, 10, .inr (.inr (.inr (.inr (va_up (fun _ => none) 0 (some h6))))))), (h6, .inr (7, [.int 98, .int 120, .int 0, .int (-1), .int 0, .int (-1)])), (a1, .inl (k2, 40, .inl (fun _ => 0)))] := hD
  refine W.widen (k := 1) (n := 40) (by decide) (by decide) ?_
  refine lv_astore_n (lv' := [(1, .ref a1), (0, .ref h0)]) hx hb dX9_putInOrder_4 rfl hl (by decide) rfl (fun ls hl => ?_)
  refine lv_aload_n hx hb dX9_putInOrder_5 rfl (lv_at hl 1 rfl) ?_
  refine va_get (D := (dC, dI)) (ci := 8) (v := .ref h4) (C := RX9) (T := TX9) (N := 6) hx hb hts in_X9 hown hK hP 0 rfl rfl 4 (by decide) (hts _ q_58) (fun _ h9 => h9) rfl dX9_putInOrder_6 ?_
  have hF4 := va_free (wc := [(h4, .inr (0, [.int 0, .ref z.1, .int 0]))]) hD hS hA [4] rfl
  refine va_callv (va_runV (As := []) (rest := []) ⟨hx, hb, hml, hown, hts⟩ (k18_clear l hl9 dC dI z h4 H3.size) (cwV 0 hts (gV q_254 q_124 q_125 q_9 q_122) rfl rfl rfl (by decide +kernel) ⟨Nat.le_of_ble_eq_true rfl, Nat.le_of_ble_eq_true rfl⟩) ⟨pc_blind, va_recv hK hP (ci := 0) (q0 := 4) rfl rfl, fun U hU hW => ⟨rfl, pc_mk hP hD hK hS hX hT [4] [] rfl rfl rfl rfl hF4 hU hW⟩⟩ rfl rfl hl.1 rfl (lv_room (Nat.le_of_ble_eq_true rfl)) dX9_putInOrder_9 ⟨(Nat.le_of_ble_eq_true rfl), (Nat.le_of_ble_eq_true rfl)⟩) hS (fun q9 _ h9 => hF4 q9 h9) hF4 (fun u6 t6 H6 L6 ht6 hvm6 hw6 hB6 hz6 hk6 hS => ?_)
  obtain ⟨hP, hD, hK⟩ := pq_join (wr := [(h0, .inr (8, [.int 0, .ref h1, .ref h2, .ref h3, .ref h4, .int 0])), (h1, .inr (0, [.int 1, .ref h5, .int 1])), (h2, .inr (0, [.int 0, .ref z.1, .int 0])), (h3, .inr (0, [.int 0, .ref z.1, .int 0])), (h5, .inl (kc0, 10, .inr (.inr (.inr (.inr (va_up (fun _ => none) 0 (some h6))))))), (h6, .inr (7, [.int 98, .int 120, .int 0, .int (-1), .int 0, .int (-1)])), (a1, .inl (k2, 40, .inl (fun _ => 0)))]) (tr := [(kc0, .object "java/lang/Object"), (k2, .boolean)]) (wz := [(h0, .inr (8, [.int 0, .ref h1, .ref h2, .ref h3, .ref h4, .int 0])), (h1, .inr (0, [.int 1, .ref h5, .int 1])), (h2, .inr (0, [.int 0, .ref z.1, .int 0])), (h3, .inr (0, [.int 0, .ref z.1, .int 0])), (h5, .inl (kc0, 10, .inr (.inr (.inr (.inr (va_up (fun _ => none) 0 (some h6))))))), (h6, .inr (7, [.int 98, .int 120, .int 0, .int (-1), .int 0, .int (-1)])), (a1, .inl (k2, 40, .inl (fun _ => 0))), (h4, .inr (0, [.int 1, .ref z.1, .int 0]))]) (tz := [(kc0, .object "java/lang/Object"), (k2, .boolean)]) hP hD hK [4] [0, 1, 2, 3, 5, 6, 7] [0, 1] rfl rfl (by decide) (by decide) rfl hk6 hF4 hB6.1 ht6 hvm6 rfl rfl
  have hG : s.heap.size + 1 ≤ H6.size := Nat.le_trans hG hz6
  refine lv_aload_n hx hb dX9_putInOrder_12 rfl (lv_at hl 1 rfl) ?_
  refine va_get (D := (dC, dI)) (ci := 8) (v := .ref h4) (C := RX9) (T := TX9) (N := 6) hx hb hts in_X9 hown hK hP 0 rfl rfl 4 (by decide) (hts _ q_58) (fun _ h9 => h9) rfl dX9_putInOrder_13 ?_
  have hF8 := va_free (wc := [(h4, .inr (0, [.int 1, .ref z.1, .int 0]))]) hD hS hA [7] rfl
  refine va_calli (va_runV (As := []) (rest := []) ⟨hx, hb, hml, hown, hts⟩ (k9_size l hl9 dC dI z h4 H6.size 1 0) (cwV 0 hts (gV q_230 q_63 q_64 q_9 q_61) rfl rfl rfl (by decide +kernel) ⟨Nat.le_of_ble_eq_true rfl, Nat.le_of_ble_eq_true rfl⟩) ⟨pc_blind, va_recv hK hP (ci := 0) (q0 := 7) rfl rfl, fun U hU hW => ⟨rfl, pc_mk hP hD hK hS hX hT [7] [] rfl rfl rfl rfl hF8 hU hW⟩⟩ rfl rfl hl.1 rfl (lv_room (Nat.le_of_ble_eq_true rfl)) dX9_putInOrder_16 ⟨(Nat.le_of_ble_eq_true rfl), (Nat.le_of_ble_eq_true rfl)⟩) hS (fun q9 _ h9 => hF8 q9 h9) hF8 (fun r11 u10 t10 H10 L10 ht10 hvm10 hw10 hB10 hz10 hk10 hS => ?_)
  obtain ⟨hP, hD, hK⟩ := pq_join (wr := [(h0, .inr (8, [.int 0, .ref h1, .ref h2, .ref h3, .ref h4, .int 0])), (h1, .inr (0, [.int 1, .ref h5, .int 1])), (h2, .inr (0, [.int 0, .ref z.1, .int 0])), (h3, .inr (0, [.int 0, .ref z.1, .int 0])), (h5, .inl (kc0, 10, .inr (.inr (.inr (.inr (va_up (fun _ => none) 0 (some h6))))))), (h6, .inr (7, [.int 98, .int 120, .int 0, .int (-1), .int 0, .int (-1)])), (a1, .inl (k2, 40, .inl (fun _ => 0)))]) (tr := [(kc0, .object "java/lang/Object"), (k2, .boolean)]) (wz := [(h0, .inr (8, [.int 0, .ref h1, .ref h2, .ref h3, .ref h4, .int 0])), (h1, .inr (0, [.int 1, .ref h5, .int 1])), (h2, .inr (0, [.int 0, .ref z.1, .int 0])), (h3, .inr (0, [.int 0, .ref z.1, .int 0])), (h5, .inl (kc0, 10, .inr (.inr (.inr (.inr (va_up (fun _ => none) 0 (some h6))))))), (h6, .inr (7, [.int 98, .int 120, .int 0, .int (-1), .int 0, .int (-1)])), (a1, .inl (k2, 40, .inl (fun _ => 0))), (h4, .inr (0, [.int 1, .ref z.1, .int 0]))]) (tz := [(kc0, .object "java/lang/Object"), (k2, .boolean)]) hP hD hK [7] [0, 1, 2, 3, 4, 5, 6] [0, 1] rfl rfl (by decide) (by decide) rfl hk10 hF8 hB10.1 ht10 hvm10 rfl rfl
  have hG : s.heap.size + 1 ≤ H10.size := Nat.le_trans hG hz10
  refine W.eq (g2 := F0 m 19 ls [.int 0]) (by rw [hw10]) ?_
  refine lv_aload_n hx hb dX9_putInOrder_19 rfl (lv_at hl 1 rfl) ?_
  refine va_get (D := (dC, dI)) (ci := 8) (v := .ref h1) (C := RX9) (T := TX9) (N := 6) hx hb hts in_X9 hown hK hP 0 rfl rfl 1 (by decide) (hts _ q_55) (fun _ h9 => h9) rfl dX9_putInOrder_20 ?_
  have hF12 := va_free (wc := [(h1, .inr (0, [.int 1, .ref h5, .int 1])), (h5, .inl (kc0, 10, .inr (.inr (.inr (.inr (va_up (fun _ => none) 0 (some h6))))))), (h6, .inr (7, [.int 98, .int 120, .int 0, .int (-1), .int 0, .int (-1)]))]) hD hS hA [1, 4, 5] rfl
  refine va_calli (va_runV (As := []) (rest := [.int 0]) ⟨hx, hb, hml, hown, hts⟩ (k56_size l hl9 dC dI z h1 h5 h6 H10.size 1 1 98 120 0 (-1) 0 (-1) kc0) (cwV 0 hts (gV q_230 q_63 q_64 q_9 q_61) rfl rfl rfl (by decide +kernel) ⟨Nat.le_of_ble_eq_true rfl, Nat.le_of_ble_eq_true rfl⟩) ⟨pc_blind, va_recv hK hP (ci := 0) (q0 := 1) rfl rfl, fun U hU hW => ⟨rfl, pc_mk hP hD hK hS hX hT [1, 4, 5] [0] rfl rfl rfl rfl hF12 hU hW⟩⟩ rfl rfl hl.1 rfl (lv_room (Nat.le_of_ble_eq_true rfl)) dX9_putInOrder_23 ⟨(Nat.le_of_ble_eq_true rfl), (Nat.le_of_ble_eq_true rfl)⟩) hS (fun q9 _ h9 => hF12 q9 h9) hF12 (fun r15 u14 t14 H14 L14 ht14 hvm14 hw14 hB14 hz14 hk14 hS => ?_)
  obtain ⟨hP, hD, hK⟩ := pq_join (wr := [(h0, .inr (8, [.int 0, .ref h1, .ref h2, .ref h3, .ref h4, .int 0])), (h2, .inr (0, [.int 0, .ref z.1, .int 0])), (h3, .inr (0, [.int 0, .ref z.1, .int 0])), (a1, .inl (k2, 40, .inl (fun _ => 0))), (h4, .inr (0, [.int 1, .ref z.1, .int 0]))]) (tr := [(k2, .boolean)]) (wz := [(h0, .inr (8, [.int 0, .ref h1, .ref h2, .ref h3, .ref h4, .int 0])), (h2, .inr (0, [.int 0, .ref z.1, .int 0])), (h3, .inr (0, [.int 0, .ref z.1, .int 0])), (a1, .inl (k2, 40, .inl (fun _ => 0))), (h4, .inr (0, [.int 1, .ref z.1, .int 0])), (h1, .inr (0, [.int 1, .ref h5, .int 1])), (h5, .inl (kc0, 10, .inr (.inr (.inr (.inr (va_up (fun _ => none) 0 (some h6))))))), (h6, .inr (7, [.int 98, .int 120, .int 0, .int (-1), .int 0, .int (-1)]))]) (tz := [(k2, .boolean), (kc0, .object "java/lang/Object")]) hP hD hK [1, 4, 5] [0, 2, 3, 6, 7] [1] rfl rfl (by decide) (by decide) rfl hk14 hF12 hB14.1 ht14 hvm14 rfl rfl
  have hG : s.heap.size + 1 ≤ H14.size := Nat.le_trans hG hz14
  refine W.eq (g2 := F0 m 26 ls [.int 1, .int 0]) (by rw [hw14]) ?_
  refine lv_icmp_ge (tgt := 165) hx hb dX9_putInOrder_26 (by decide) (fun cz => absurd cz (by decide)) (fun _ => ?_)
  refine lv_iconst (v := 0) hx hb dX9_putInOrder_29 (by decide) ?_
  refine lv_istore_n (lv' := [(2, .int 0), (1, .ref a1), (0, .ref h0)]) hx hb dX9_putInOrder_30 rfl hl (by decide) rfl (fun ls hl => ?_)
  refine lv_iload_n hx hb dX9_putInOrder_31 rfl (lv_at hl 0 rfl) ?_
  refine lv_aload_n hx hb dX9_putInOrder_32 rfl (lv_at hl 2 rfl) ?_
  refine va_get (D := (dC, dI)) (ci := 8) (v := .ref h1) (C := RX9) (T := TX9) (N := 6) hx hb hts in_X9 hown hK hP 0 rfl rfl 1 (by decide) (hts _ q_55) (fun _ h9 => h9) rfl dX9_putInOrder_33 ?_
  have hF16 := va_free (wc := [(h1, .inr (0, [.int 1, .ref h5, .int 1])), (h5, .inl (kc0, 10, .inr (.inr (.inr (.inr (va_up (fun _ => none) 0 (some h6))))))), (h6, .inr (7, [.int 98, .int 120, .int 0, .int (-1), .int 0, .int (-1)]))]) hD hS hA [5, 6, 7] rfl
  refine va_calli (va_runV (As := []) (rest := [.int 0]) ⟨hx, hb, hml, hown, hts⟩ (k56_size l hl9 dC dI z h1 h5 h6 H14.size 1 1 98 120 0 (-1) 0 (-1) kc0) (cwV 0 hts (gV q_230 q_63 q_64 q_9 q_61) rfl rfl rfl (by decide +kernel) ⟨Nat.le_of_ble_eq_true rfl, Nat.le_of_ble_eq_true rfl⟩) ⟨pc_blind, va_recv hK hP (ci := 0) (q0 := 5) rfl rfl, fun U hU hW => ⟨rfl, pc_mk hP hD hK hS hX hT [5, 6, 7] [1] rfl rfl rfl rfl hF16 hU hW⟩⟩ rfl rfl hl.1 rfl (lv_room (Nat.le_of_ble_eq_true rfl)) dX9_putInOrder_36 ⟨(Nat.le_of_ble_eq_true rfl), (Nat.le_of_ble_eq_true rfl)⟩) hS (fun q9 _ h9 => hF16 q9 h9) hF16 (fun r19 u18 t18 H18 L18 ht18 hvm18 hw18 hB18 hz18 hk18 hS => ?_)
  obtain ⟨hP, hD, hK⟩ := pq_join (wr := [(h0, .inr (8, [.int 0, .ref h1, .ref h2, .ref h3, .ref h4, .int 0])), (h2, .inr (0, [.int 0, .ref z.1, .int 0])), (h3, .inr (0, [.int 0, .ref z.1, .int 0])), (a1, .inl (k2, 40, .inl (fun _ => 0))), (h4, .inr (0, [.int 1, .ref z.1, .int 0]))]) (tr := [(k2, .boolean)]) (wz := [(h0, .inr (8, [.int 0, .ref h1, .ref h2, .ref h3, .ref h4, .int 0])), (h2, .inr (0, [.int 0, .ref z.1, .int 0])), (h3, .inr (0, [.int 0, .ref z.1, .int 0])), (a1, .inl (k2, 40, .inl (fun _ => 0))), (h4, .inr (0, [.int 1, .ref z.1, .int 0])), (h1, .inr (0, [.int 1, .ref h5, .int 1])), (h5, .inl (kc0, 10, .inr (.inr (.inr (.inr (va_up (fun _ => none) 0 (some h6))))))), (h6, .inr (7, [.int 98, .int 120, .int 0, .int (-1), .int 0, .int (-1)]))]) (tz := [(k2, .boolean), (kc0, .object "java/lang/Object")]) hP hD hK [5, 6, 7] [0, 1, 2, 3, 4] [0] rfl rfl (by decide) (by decide) rfl hk18 hF16 hB18.1 ht18 hvm18 rfl rfl
  have hG : s.heap.size + 1 ≤ H18.size := Nat.le_trans hG hz18
  refine W.eq (g2 := F0 m 39 ls [.int 1, .int 0]) (by rw [hw18]) ?_
  refine lv_icmp_ge (tgt := 162) hx hb dX9_putInOrder_39 (by decide) (fun cz => absurd cz (by decide)) (fun _ => ?_)
  refine lv_aload_n hx hb dX9_putInOrder_42 rfl (lv_at hl 1 rfl) ?_
  refine lv_iload_n hx hb dX9_putInOrder_43 rfl (lv_at hl 0 rfl) ?_
  refine va_zald hx hb hK hP 3 0 rfl rfl (i := 0) (by unfold vp_in; decide) dX9_putInOrder_44 ?_
  refine W.eq (g2 := F0 m 45 ls [.int 0]) rfl ?_
  refine lv_if_ne (tgt := 52) hx hb dX9_putInOrder_45 (by decide) (fun cz => absurd (by decide) cz) (fun _ => ?_)
  refine lv_iconst (v := 1) hx hb dX9_putInOrder_48 (by decide) ?_
  refine lv_goto (tgt := 53) hx hb dX9_putInOrder_49 (by decide) ?_
  refine lv_istore_n (lv' := [(3, .int 1), (2, .int 0), (1, .ref a1), (0, .ref h0)]) hx hb dX9_putInOrder_53 rfl hl (by decide) rfl (fun ls hl => ?_)
  refine lv_aload_n hx hb dX9_putInOrder_54 rfl (lv_at hl 3 rfl) ?_
  refine va_get (D := (dC, dI)) (ci := 8) (v := .ref h2) (C := RX9) (T := TX9) (N := 6) hx hb hts in_X9 hown hK hP 0 rfl rfl 2 (by decide) (hts _ q_56) (fun _ h9 => h9) rfl dX9_putInOrder_55 ?_
  have hF20 := va_free (wc := [(h2, .inr (0, [.int 0, .ref z.1, .int 0]))]) hD hS hA [1] rfl
  refine va_callr (va_runV (As := []) (rest := []) ⟨hx, hb, hml, hown, hts⟩ (k59_iterator l hl9 dC dI z h2 H18.size) (cwV 0 hts (gV q_267 q_268 q_269 q_9 q_266) rfl rfl rfl (by decide +kernel) ⟨Nat.le_of_ble_eq_true rfl, Nat.le_of_ble_eq_true rfl⟩) ⟨pc_blind, va_recv hK hP (ci := 0) (q0 := 1) rfl rfl, fun U hU hW => ⟨rfl, pc_mk hP hD hK hS hX hT [1] [] rfl rfl rfl rfl hF20 hU hW⟩⟩ rfl rfl hl.1 rfl (lv_room (Nat.le_of_ble_eq_true rfl)) dX9_putInOrder_58 ⟨(Nat.le_of_ble_eq_true rfl), (Nat.le_of_ble_eq_true rfl)⟩) hS (fun q9 _ h9 => hF20 q9 h9) hF20 (fun u22 r23 t22 H22 L22 ht22 hvm22 hw22 hB22 hz22 hk22 hS => ?_)
  obtain ⟨a24, hr22, hB22⟩ := hB22
  obtain ⟨hP, hD, hK⟩ := pq_join (wr := [(h0, .inr (8, [.int 0, .ref h1, .ref h2, .ref h3, .ref h4, .int 0])), (h3, .inr (0, [.int 0, .ref z.1, .int 0])), (a1, .inl (k2, 40, .inl (fun _ => 0))), (h4, .inr (0, [.int 1, .ref z.1, .int 0])), (h1, .inr (0, [.int 1, .ref h5, .int 1])), (h5, .inl (kc0, 10, .inr (.inr (.inr (.inr (va_up (fun _ => none) 0 (some h6))))))), (h6, .inr (7, [.int 98, .int 120, .int 0, .int (-1), .int 0, .int (-1)]))]) (tr := [(k2, .boolean), (kc0, .object "java/lang/Object")]) (wz := [(h0, .inr (8, [.int 0, .ref h1, .ref h2, .ref h3, .ref h4, .int 0])), (h3, .inr (0, [.int 0, .ref z.1, .int 0])), (a1, .inl (k2, 40, .inl (fun _ => 0))), (h4, .inr (0, [.int 1, .ref z.1, .int 0])), (h1, .inr (0, [.int 1, .ref h5, .int 1])), (h5, .inl (kc0, 10, .inr (.inr (.inr (.inr (va_up (fun _ => none) 0 (some h6))))))), (h6, .inr (7, [.int 98, .int 120, .int 0, .int (-1), .int 0, .int (-1)])), (h2, .inr (0, [.int 0, .ref z.1, .int 0])), (a24, .inr (1, [.int 0, .int (-1), .int 0, .ref h2]))]) (tz := [(k2, .boolean), (kc0, .object "java/lang/Object")]) hP hD hK [1] [0, 2, 3, 4, 5, 6, 7] [0, 1] rfl rfl (by decide) (by decide) rfl hk22 hF20 hB22.1 ht22 hvm22 rfl rfl
  have hG : s.heap.size + 2 ≤ H22.size := va_gr (g := 1) (g1 := 1) hG (by rw [← ht22]; exact hB22.2)
  refine W.eq (g2 := F0 m 61 ls [.ref a24]) (by rw [hr22]) ?_
  refine W.widen (k := 2) (n := 44) (by decide) (by decide) ?_
  refine lv_astore (lv' := [(4, .ref a24), (3, .int 1), (2, .int 0), (1, .ref a1), (0, .ref h0)]) hx hb dX9_putInOrder_61 hl (by decide) rfl (fun ls hl => ?_)
  refine lv_aload hx hb dX9_putInOrder_63 (lv_at hl 0 rfl) ?_
  have hF25 := va_free (wc := [(a24, .inr (1, [.int 0, .int (-1), .int 0, .ref h2])), (h2, .inr (0, [.int 0, .ref z.1, .int 0]))]) hD hS hA [8, 7] rfl
  refine va_callFi (va_runF (As := []) (rest := []) (hK.1 1 _ rfl).2 ⟨hx, hb, hml, hown, hts⟩ (k60_hasNext l hl9 dC dI z a24 h2 H22.size) (va_cwF 0 hts (gF q_272 q_273 q_274 q_257 q_271) rfl rfl rfl hT.2.2.2.2.2.2.1 (by decide +kernel) ⟨Nat.le_of_ble_eq_true rfl, Nat.le_of_ble_eq_true rfl⟩) ⟨pc_blind, va_recv hK hP (ci := 1) (q0 := 8) rfl rfl, fun U hU hW => ⟨rfl, pc_mk hP hD hK hS hX hT [8, 7] [] rfl rfl rfl rfl hF25 hU hW⟩⟩ rfl rfl hl.1 rfl (lv_room (Nat.le_of_ble_eq_true rfl)) dX9_putInOrder_65 ⟨(Nat.le_of_ble_eq_true rfl), (Nat.le_of_ble_eq_true rfl)⟩) hS (fun q9 _ h9 => hF25 q9 h9) hF25 (fun r28 u27 t27 H27 L27 ht27 hvm27 hw27 hB27 hz27 hk27 hS => ?_)
  obtain ⟨hP, hD, hK⟩ := pq_join (wr := [(h0, .inr (8, [.int 0, .ref h1, .ref h2, .ref h3, .ref h4, .int 0])), (h3, .inr (0, [.int 0, .ref z.1, .int 0])), (a1, .inl (k2, 40, .inl (fun _ => 0))), (h4, .inr (0, [.int 1, .ref z.1, .int 0])), (h1, .inr (0, [.int 1, .ref h5, .int 1])), (h5, .inl (kc0, 10, .inr (.inr (.inr (.inr (va_up (fun _ => none) 0 (some h6))))))), (h6, .inr (7, [.int 98, .int 120, .int 0, .int (-1), .int 0, .int (-1)]))]) (tr := [(k2, .boolean), (kc0, .object "java/lang/Object")]) (wz := [(h0, .inr (8, [.int 0, .ref h1, .ref h2, .ref h3, .ref h4, .int 0])), (h3, .inr (0, [.int 0, .ref z.1, .int 0])), (a1, .inl (k2, 40, .inl (fun _ => 0))), (h4, .inr (0, [.int 1, .ref z.1, .int 0])), (h1, .inr (0, [.int 1, .ref h5, .int 1])), (h5, .inl (kc0, 10, .inr (.inr (.inr (.inr (va_up (fun _ => none) 0 (some h6))))))), (h6, .inr (7, [.int 98, .int 120, .int 0, .int (-1), .int 0, .int (-1)])), (a24, .inr (1, [.int 0, .int (-1), .int 0, .ref h2])), (h2, .inr (0, [.int 0, .ref z.1, .int 0]))]) (tz := [(k2, .boolean), (kc0, .object "java/lang/Object")]) hP hD hK [8, 7] [0, 1, 2, 3, 4, 5, 6] [0, 1] rfl rfl (by decide) (by decide) rfl hk27 hF25 hB27.1 ht27 hvm27 rfl rfl
  have hG : s.heap.size + 2 ≤ H27.size := Nat.le_trans hG hz27
  refine W.eq (g2 := F0 m 70 ls [.int 0]) (by rw [hw27]) ?_
  refine lv_if_eq (tgt := 136) hx hb dX9_putInOrder_70 (by decide) (fun _ => ?_) (fun cz => absurd (by decide) cz)
  refine lv_iload_n hx hb dX9_putInOrder_136 rfl (lv_at hl 1 rfl) ?_
  refine lv_if_eq (tgt := 156) hx hb dX9_putInOrder_137 (by decide) (fun cz => absurd cz (by decide)) (fun _ => ?_)
  refine lv_aload_n hx hb dX9_putInOrder_140 rfl (lv_at hl 3 rfl) ?_
  refine lv_iload_n hx hb dX9_putInOrder_141 rfl (lv_at hl 2 rfl) ?_
  refine lv_iconst (v := 1) hx hb dX9_putInOrder_142 (by decide) ?_
  refine va_zast hx hb hK hP hD (va_Sre hS) 2 0 rfl rfl (i := 0) (by unfold vp_in; decide) dX9_putInOrder_143 (fun H29 _ hP hD hS' => ?_)
  have hG : s.heap.size + 2 ≤ H29.size := Nat.le_trans hG hS'.1
  have hS := va_Str hS hS'
  have hP : va_P (dC, dI) xCl [(h0, .inr (8, [.int 0, .ref h1, .ref h2, .ref h3, .ref h4, .int 0])), (h3, .inr (0, [.int 0, .ref z.1, .int 0])), (a1, .inl (k2, 40, .inl (upd (fun _ => 0) 0 1))), (h4, .inr (0, [.int 1, .ref z.1, .int 0])), (h1, .inr (0, [.int 1, .ref h5, .int 1])), (h5, .inl (kc0, 10, .inr (.inr (.inr (.inr (va_up (fun _ => none) 0 (some h6))))))), (h6, .inr (7, [.int 98, .int 120, .int 0, .int (-1), .int 0, .int (-1)])), (a24, .inr (1, [.int 0, .int (-1), .int 0, .ref h2])), (h2, .inr (0, [.int 0, .ref z.1, .int 0]))] H29 := hP
  have hD : va_D A [(h0, .inr (8, [.int 0, .ref h1, .ref h2, .ref h3, .ref h4, .int 0])), (h3, .inr (0, [.int 0, .ref z.1, .int 0])), (a1, .inl (k2, 40, .inl (upd (fun _ => 0) 0 1))), (h4, .inr (0, [.int 1, .ref z.1, .int 0])), (h1, .inr (0, [.int 1, .ref h5, .int 1])), (h5, .inl (kc0, 10, .inr (.inr (.inr (.inr (va_up (fun _ => none) 0 (some h6))))))), (h6, .inr (7, [.int 98, .int 120, .int 0, .int (-1), .int 0, .int (-1)])), (a24, .inr (1, [.int 0, .int (-1), .int 0, .ref h2])), (h2, .inr (0, [.int 0, .ref z.1, .int 0]))] := hD
  refine lv_aload_n hx hb dX9_putInOrder_144 rfl (lv_at hl 4 rfl) ?_
  refine va_get (D := (dC, dI)) (ci := 8) (v := .ref h4) (C := RX9) (T := TX9) (N := 6) hx hb hts in_X9 hown hK hP 0 rfl rfl 4 (by decide) (hts _ q_58) (fun _ h9 => h9) rfl dX9_putInOrder_145 ?_
  refine lv_iload_n hx hb dX9_putInOrder_148 rfl (lv_at hl 2 rfl) ?_
  have hF30 := va_free (wc := []) hD hS hA [] rfl
  refine va_callr (va_runS (As := [.int 0]) (rest := [.ref h4]) ⟨hx, hb, hml, hown, hts⟩ (k61_valueOf l hl9 dC dI z H29.size) (va_cwS 1 hts (gS q_278 q_279 q_280 q_277) rfl rfl rfl (by decide +kernel) ⟨Nat.le_of_ble_eq_true rfl, Nat.le_of_ble_eq_true rfl⟩) ⟨pc_blind, fun U hU hW => ⟨rfl, pc_mk hP hD hK hS hX hT [] [] rfl rfl rfl rfl hF30 hU hW⟩⟩ rfl rfl hl.1 rfl (lv_room (Nat.le_of_ble_eq_true rfl)) dX9_putInOrder_149 ⟨(Nat.le_of_ble_eq_true rfl), (Nat.le_of_ble_eq_true rfl)⟩) hS (fun q9 _ h9 => hF30 q9 h9) hF30 (fun u32 r33 t32 H32 L32 ht32 hvm32 hw32 hB32 hz32 hk32 hS => ?_)
  obtain ⟨hr32, hB32⟩ := hB32
  obtain ⟨hP, hD, hK⟩ := pq_join (wr := [(h0, .inr (8, [.int 0, .ref h1, .ref h2, .ref h3, .ref h4, .int 0])), (h3, .inr (0, [.int 0, .ref z.1, .int 0])), (a1, .inl (k2, 40, .inl (upd (fun _ => 0) 0 1))), (h4, .inr (0, [.int 1, .ref z.1, .int 0])), (h1, .inr (0, [.int 1, .ref h5, .int 1])), (h5, .inl (kc0, 10, .inr (.inr (.inr (.inr (va_up (fun _ => none) 0 (some h6))))))), (h6, .inr (7, [.int 98, .int 120, .int 0, .int (-1), .int 0, .int (-1)])), (a24, .inr (1, [.int 0, .int (-1), .int 0, .ref h2])), (h2, .inr (0, [.int 0, .ref z.1, .int 0]))]) (tr := [(k2, .boolean), (kc0, .object "java/lang/Object")]) (wz := [(h0, .inr (8, [.int 0, .ref h1, .ref h2, .ref h3, .ref h4, .int 0])), (h3, .inr (0, [.int 0, .ref z.1, .int 0])), (a1, .inl (k2, 40, .inl (upd (fun _ => 0) 0 1))), (h4, .inr (0, [.int 1, .ref z.1, .int 0])), (h1, .inr (0, [.int 1, .ref h5, .int 1])), (h5, .inl (kc0, 10, .inr (.inr (.inr (.inr (va_up (fun _ => none) 0 (some h6))))))), (h6, .inr (7, [.int 98, .int 120, .int 0, .int (-1), .int 0, .int (-1)])), (a24, .inr (1, [.int 0, .int (-1), .int 0, .ref h2])), (h2, .inr (0, [.int 0, .ref z.1, .int 0]))]) (tz := [(k2, .boolean), (kc0, .object "java/lang/Object")]) hP hD hK [] [0, 1, 2, 3, 4, 5, 6, 7, 8] [0, 1] rfl rfl (by decide) (by decide) rfl hk32 hF30 hB32.1 ht32 hvm32 rfl rfl
  have hG : s.heap.size + 2 ≤ H32.size := Nat.le_trans hG hz32
  refine W.eq (g2 := F0 m 152 ls [.ref (z.2.2.1 128), .ref h4]) (by rw [hr32]) ?_
  have hF34 := va_free (wc := [(h4, .inr (0, [.int 1, .ref z.1, .int 0]))]) hD hS hA [3] rfl
  refine va_calli (va_runV (As := [.ref (z.2.2.1 128)]) (rest := []) ⟨hx, hb, hml, hown, hts⟩ (k63_add l hl9 dC dI z h4 H32.size) (cwV 1 hts (gV q_247 q_110 q_111 q_9 q_108) rfl rfl rfl (by decide +kernel) ⟨Nat.le_of_ble_eq_true rfl, Nat.le_of_ble_eq_true rfl⟩) ⟨pc_blind, va_recv hK hP (ci := 0) (q0 := 3) rfl rfl, fun U hU hW => ⟨rfl, pc_mk hP hD hK hS hX hT [3] [] rfl rfl rfl rfl hF34 hU hW⟩⟩ rfl rfl hl.1 rfl (lv_room (Nat.le_of_ble_eq_true rfl)) dX9_putInOrder_152 ⟨(Nat.le_of_ble_eq_true rfl), (Nat.le_of_ble_eq_true rfl)⟩) hS (fun q9 _ h9 => hF34 q9 h9) hF34 (fun r37 u36 t36 H36 L36 ht36 hvm36 hw36 hB36 hz36 hk36 hS => ?_)
  obtain ⟨a38, k39, hB36⟩ := hB36
  obtain ⟨hP, hD, hK⟩ := pq_join (wr := [(h0, .inr (8, [.int 0, .ref h1, .ref h2, .ref h3, .ref h4, .int 0])), (h3, .inr (0, [.int 0, .ref z.1, .int 0])), (a1, .inl (k2, 40, .inl (upd (fun _ => 0) 0 1))), (h1, .inr (0, [.int 1, .ref h5, .int 1])), (h5, .inl (kc0, 10, .inr (.inr (.inr (.inr (va_up (fun _ => none) 0 (some h6))))))), (h6, .inr (7, [.int 98, .int 120, .int 0, .int (-1), .int 0, .int (-1)])), (a24, .inr (1, [.int 0, .int (-1), .int 0, .ref h2])), (h2, .inr (0, [.int 0, .ref z.1, .int 0]))]) (tr := [(k2, .boolean), (kc0, .object "java/lang/Object")]) (wz := [(h0, .inr (8, [.int 0, .ref h1, .ref h2, .ref h3, .ref h4, .int 0])), (h3, .inr (0, [.int 0, .ref z.1, .int 0])), (a1, .inl (k2, 40, .inl (upd (fun _ => 0) 0 1))), (h1, .inr (0, [.int 1, .ref h5, .int 1])), (h5, .inl (kc0, 10, .inr (.inr (.inr (.inr (va_up (fun _ => none) 0 (some h6))))))), (h6, .inr (7, [.int 98, .int 120, .int 0, .int (-1), .int 0, .int (-1)])), (a24, .inr (1, [.int 0, .int (-1), .int 0, .ref h2])), (h2, .inr (0, [.int 0, .ref z.1, .int 0])), (h4, .inr (0, [.int 2, .ref a38, .int 1])), (a38, .inl (k39, 10, .inr (.inr (.inr (.inr (va_up (fun _ => none) 0 (some (z.2.2.1 128))))))))]) (tz := [(k2, .boolean), (kc0, .object "java/lang/Object"), (k39, .object "java/lang/Object")]) hP hD hK [3] [0, 1, 2, 4, 5, 6, 7, 8] [0, 1] rfl rfl (by decide) (by decide) rfl hk36 hF34 hB36.1 ht36 hvm36 rfl rfl
  have hG : s.heap.size + 3 ≤ H36.size := va_gr (g := 2) (g1 := 1) hG (by rw [← ht36]; exact hB36.2)
  refine W.eq (g2 := F0 m 155 ls [.int 1]) (by rw [hw36]) ?_
  refine W.widen (k := 3) (n := 54) (by decide) (by decide) ?_
  refine lv_pop hx hb dX9_putInOrder_155 rfl ?_
  refine lv_iinc (v := 1) (lv' := [(2, .int 1), (4, .ref a24), (3, .int 1), (1, .ref a1), (0, .ref h0)]) hx hb dX9_putInOrder_156 hl (k := 2) rfl (by decide) (by decide) rfl (fun ls hl => ?_)
  refine lv_goto (tgt := 31) hx hb dX9_putInOrder_159 (by decide) ?_
  refine lv_iload_n hx hb dX9_putInOrder_31 rfl (lv_at hl 0 rfl) ?_
  refine lv_aload_n hx hb dX9_putInOrder_32 rfl (lv_at hl 4 rfl) ?_
  refine va_get (D := (dC, dI)) (ci := 8) (v := .ref h1) (C := RX9) (T := TX9) (N := 6) hx hb hts in_X9 hown hK hP 0 rfl rfl 1 (by decide) (hts _ q_55) (fun _ h9 => h9) rfl dX9_putInOrder_33 ?_
  have hF40 := va_free (wc := [(h1, .inr (0, [.int 1, .ref h5, .int 1])), (h5, .inl (kc0, 10, .inr (.inr (.inr (.inr (va_up (fun _ => none) 0 (some h6))))))), (h6, .inr (7, [.int 98, .int 120, .int 0, .int (-1), .int 0, .int (-1)]))]) hD hS hA [3, 4, 5] rfl
  refine va_calli (va_runV (As := []) (rest := [.int 1]) ⟨hx, hb, hml, hown, hts⟩ (k56_size l hl9 dC dI z h1 h5 h6 H36.size 1 1 98 120 0 (-1) 0 (-1) kc0) (cwV 0 hts (gV q_230 q_63 q_64 q_9 q_61) rfl rfl rfl (by decide +kernel) ⟨Nat.le_of_ble_eq_true rfl, Nat.le_of_ble_eq_true rfl⟩) ⟨pc_blind, va_recv hK hP (ci := 0) (q0 := 3) rfl rfl, fun U hU hW => ⟨rfl, pc_mk hP hD hK hS hX hT [3, 4, 5] [1] rfl rfl rfl rfl hF40 hU hW⟩⟩ rfl rfl hl.1 rfl (lv_room (Nat.le_of_ble_eq_true rfl)) dX9_putInOrder_36 ⟨(Nat.le_of_ble_eq_true rfl), (Nat.le_of_ble_eq_true rfl)⟩) hS (fun q9 _ h9 => hF40 q9 h9) hF40 (fun r43 u42 t42 H42 L42 ht42 hvm42 hw42 hB42 hz42 hk42 hS => ?_)
  obtain ⟨hP, hD, hK⟩ := pq_join (wr := [(h0, .inr (8, [.int 0, .ref h1, .ref h2, .ref h3, .ref h4, .int 0])), (h3, .inr (0, [.int 0, .ref z.1, .int 0])), (a1, .inl (k2, 40, .inl (upd (fun _ => 0) 0 1))), (a24, .inr (1, [.int 0, .int (-1), .int 0, .ref h2])), (h2, .inr (0, [.int 0, .ref z.1, .int 0])), (h4, .inr (0, [.int 2, .ref a38, .int 1])), (a38, .inl (k39, 10, .inr (.inr (.inr (.inr (va_up (fun _ => none) 0 (some (z.2.2.1 128))))))))]) (tr := [(k2, .boolean), (k39, .object "java/lang/Object")]) (wz := [(h0, .inr (8, [.int 0, .ref h1, .ref h2, .ref h3, .ref h4, .int 0])), (h3, .inr (0, [.int 0, .ref z.1, .int 0])), (a1, .inl (k2, 40, .inl (upd (fun _ => 0) 0 1))), (a24, .inr (1, [.int 0, .int (-1), .int 0, .ref h2])), (h2, .inr (0, [.int 0, .ref z.1, .int 0])), (h4, .inr (0, [.int 2, .ref a38, .int 1])), (a38, .inl (k39, 10, .inr (.inr (.inr (.inr (va_up (fun _ => none) 0 (some (z.2.2.1 128)))))))), (h1, .inr (0, [.int 1, .ref h5, .int 1])), (h5, .inl (kc0, 10, .inr (.inr (.inr (.inr (va_up (fun _ => none) 0 (some h6))))))), (h6, .inr (7, [.int 98, .int 120, .int 0, .int (-1), .int 0, .int (-1)]))]) (tz := [(k2, .boolean), (k39, .object "java/lang/Object"), (kc0, .object "java/lang/Object")]) hP hD hK [3, 4, 5] [0, 1, 2, 6, 7, 8, 9] [0, 2] rfl rfl (by decide) (by decide) rfl hk42 hF40 hB42.1 ht42 hvm42 rfl rfl
  have hG : s.heap.size + 3 ≤ H42.size := Nat.le_trans hG hz42
  refine W.eq (g2 := F0 m 39 ls [.int 1, .int 1]) (by rw [hw42]) ?_
  refine lv_icmp_ge (tgt := 162) hx hb dX9_putInOrder_39 (by decide) (fun _ => ?_) (fun cz => absurd (by decide) cz)
  refine lv_goto (tgt := 12) hx hb dX9_putInOrder_162 (by decide) ?_
  refine lv_aload_n hx hb dX9_putInOrder_12 rfl (lv_at hl 4 rfl) ?_
  refine va_get (D := (dC, dI)) (ci := 8) (v := .ref h4) (C := RX9) (T := TX9) (N := 6) hx hb hts in_X9 hown hK hP 0 rfl rfl 4 (by decide) (hts _ q_58) (fun _ h9 => h9) rfl dX9_putInOrder_13 ?_
  have hF44 := va_free (wc := [(h4, .inr (0, [.int 2, .ref a38, .int 1])), (a38, .inl (k39, 10, .inr (.inr (.inr (.inr (va_up (fun _ => none) 0 (some (z.2.2.1 128))))))))]) hD hS hA [5, 6] rfl
  refine va_calli (va_runV (As := []) (rest := []) ⟨hx, hb, hml, hown, hts⟩ (k64_size l hl9 dC dI z h4 a38 H42.size 2 1 k39) (cwV 0 hts (gV q_230 q_63 q_64 q_9 q_61) rfl rfl rfl (by decide +kernel) ⟨Nat.le_of_ble_eq_true rfl, Nat.le_of_ble_eq_true rfl⟩) ⟨pc_blind, va_recv hK hP (ci := 0) (q0 := 5) rfl rfl, fun U hU hW => ⟨rfl, pc_mk hP hD hK hS hX hT [5, 6] [1] rfl rfl rfl rfl hF44 hU hW⟩⟩ rfl rfl hl.1 rfl (lv_room (Nat.le_of_ble_eq_true rfl)) dX9_putInOrder_16 ⟨(Nat.le_of_ble_eq_true rfl), (Nat.le_of_ble_eq_true rfl)⟩) hS (fun q9 _ h9 => hF44 q9 h9) hF44 (fun r47 u46 t46 H46 L46 ht46 hvm46 hw46 hB46 hz46 hk46 hS => ?_)
  obtain ⟨hP, hD, hK⟩ := pq_join (wr := [(h0, .inr (8, [.int 0, .ref h1, .ref h2, .ref h3, .ref h4, .int 0])), (h3, .inr (0, [.int 0, .ref z.1, .int 0])), (a1, .inl (k2, 40, .inl (upd (fun _ => 0) 0 1))), (a24, .inr (1, [.int 0, .int (-1), .int 0, .ref h2])), (h2, .inr (0, [.int 0, .ref z.1, .int 0])), (h1, .inr (0, [.int 1, .ref h5, .int 1])), (h5, .inl (kc0, 10, .inr (.inr (.inr (.inr (va_up (fun _ => none) 0 (some h6))))))), (h6, .inr (7, [.int 98, .int 120, .int 0, .int (-1), .int 0, .int (-1)]))]) (tr := [(k2, .boolean), (kc0, .object "java/lang/Object")]) (wz := [(h0, .inr (8, [.int 0, .ref h1, .ref h2, .ref h3, .ref h4, .int 0])), (h3, .inr (0, [.int 0, .ref z.1, .int 0])), (a1, .inl (k2, 40, .inl (upd (fun _ => 0) 0 1))), (a24, .inr (1, [.int 0, .int (-1), .int 0, .ref h2])), (h2, .inr (0, [.int 0, .ref z.1, .int 0])), (h1, .inr (0, [.int 1, .ref h5, .int 1])), (h5, .inl (kc0, 10, .inr (.inr (.inr (.inr (va_up (fun _ => none) 0 (some h6))))))), (h6, .inr (7, [.int 98, .int 120, .int 0, .int (-1), .int 0, .int (-1)])), (h4, .inr (0, [.int 2, .ref a38, .int 1])), (a38, .inl (k39, 10, .inr (.inr (.inr (.inr (va_up (fun _ => none) 0 (some (z.2.2.1 128))))))))]) (tz := [(k2, .boolean), (kc0, .object "java/lang/Object"), (k39, .object "java/lang/Object")]) hP hD hK [5, 6] [0, 1, 2, 3, 4, 7, 8, 9] [0, 2] rfl rfl (by decide) (by decide) rfl hk46 hF44 hB46.1 ht46 hvm46 rfl rfl
  have hG : s.heap.size + 3 ≤ H46.size := Nat.le_trans hG hz46
  refine W.eq (g2 := F0 m 19 ls [.int 1]) (by rw [hw46]) ?_
  refine lv_aload_n hx hb dX9_putInOrder_19 rfl (lv_at hl 4 rfl) ?_
  refine va_get (D := (dC, dI)) (ci := 8) (v := .ref h1) (C := RX9) (T := TX9) (N := 6) hx hb hts in_X9 hown hK hP 0 rfl rfl 1 (by decide) (hts _ q_55) (fun _ h9 => h9) rfl dX9_putInOrder_20 ?_
  have hF48 := va_free (wc := [(h1, .inr (0, [.int 1, .ref h5, .int 1])), (h5, .inl (kc0, 10, .inr (.inr (.inr (.inr (va_up (fun _ => none) 0 (some h6))))))), (h6, .inr (7, [.int 98, .int 120, .int 0, .int (-1), .int 0, .int (-1)]))]) hD hS hA [5, 6, 7] rfl
  refine va_calli (va_runV (As := []) (rest := [.int 1]) ⟨hx, hb, hml, hown, hts⟩ (k56_size l hl9 dC dI z h1 h5 h6 H46.size 1 1 98 120 0 (-1) 0 (-1) kc0) (cwV 0 hts (gV q_230 q_63 q_64 q_9 q_61) rfl rfl rfl (by decide +kernel) ⟨Nat.le_of_ble_eq_true rfl, Nat.le_of_ble_eq_true rfl⟩) ⟨pc_blind, va_recv hK hP (ci := 0) (q0 := 5) rfl rfl, fun U hU hW => ⟨rfl, pc_mk hP hD hK hS hX hT [5, 6, 7] [1] rfl rfl rfl rfl hF48 hU hW⟩⟩ rfl rfl hl.1 rfl (lv_room (Nat.le_of_ble_eq_true rfl)) dX9_putInOrder_23 ⟨(Nat.le_of_ble_eq_true rfl), (Nat.le_of_ble_eq_true rfl)⟩) hS (fun q9 _ h9 => hF48 q9 h9) hF48 (fun r51 u50 t50 H50 L50 ht50 hvm50 hw50 hB50 hz50 hk50 hS => ?_)
  obtain ⟨hP, hD, hK⟩ := pq_join (wr := [(h0, .inr (8, [.int 0, .ref h1, .ref h2, .ref h3, .ref h4, .int 0])), (h3, .inr (0, [.int 0, .ref z.1, .int 0])), (a1, .inl (k2, 40, .inl (upd (fun _ => 0) 0 1))), (a24, .inr (1, [.int 0, .int (-1), .int 0, .ref h2])), (h2, .inr (0, [.int 0, .ref z.1, .int 0])), (h4, .inr (0, [.int 2, .ref a38, .int 1])), (a38, .inl (k39, 10, .inr (.inr (.inr (.inr (va_up (fun _ => none) 0 (some (z.2.2.1 128))))))))]) (tr := [(k2, .boolean), (k39, .object "java/lang/Object")]) (wz := [(h0, .inr (8, [.int 0, .ref h1, .ref h2, .ref h3, .ref h4, .int 0])), (h3, .inr (0, [.int 0, .ref z.1, .int 0])), (a1, .inl (k2, 40, .inl (upd (fun _ => 0) 0 1))), (a24, .inr (1, [.int 0, .int (-1), .int 0, .ref h2])), (h2, .inr (0, [.int 0, .ref z.1, .int 0])), (h4, .inr (0, [.int 2, .ref a38, .int 1])), (a38, .inl (k39, 10, .inr (.inr (.inr (.inr (va_up (fun _ => none) 0 (some (z.2.2.1 128)))))))), (h1, .inr (0, [.int 1, .ref h5, .int 1])), (h5, .inl (kc0, 10, .inr (.inr (.inr (.inr (va_up (fun _ => none) 0 (some h6))))))), (h6, .inr (7, [.int 98, .int 120, .int 0, .int (-1), .int 0, .int (-1)]))]) (tz := [(k2, .boolean), (k39, .object "java/lang/Object"), (kc0, .object "java/lang/Object")]) hP hD hK [5, 6, 7] [0, 1, 2, 3, 4, 8, 9] [0, 2] rfl rfl (by decide) (by decide) rfl hk50 hF48 hB50.1 ht50 hvm50 rfl rfl
  have hG : s.heap.size + 3 ≤ H50.size := Nat.le_trans hG hz50
  refine W.eq (g2 := F0 m 26 ls [.int 1, .int 1]) (by rw [hw50]) ?_
  refine lv_icmp_ge (tgt := 165) hx hb dX9_putInOrder_26 (by decide) (fun _ => ?_) (fun cz => absurd (by decide) cz)
  exact W.vret hx hb hr (fun t9 ht9 hW9 => ⟨⟨(), rfl, trivial, ⟨a38, k39, ⟨pq_mk (wc := [(h0, .inr (8, [.int 0, .ref h1, .ref h2, .ref h3, .ref h4, .int 0])), (h1, .inr (0, [.int 1, .ref h5, .int 1])), (h2, .inr (0, [.int 0, .ref z.1, .int 0])), (h3, .inr (0, [.int 0, .ref z.1, .int 0])), (h4, .inr (0, [.int 2, .ref a38, .int 1])), (h5, .inl (kc0, 10, .inr (.inr (.inr (.inr (va_up (fun _ => none) 0 (some h6))))))), (h6, .inr (7, [.int 98, .int 120, .int 0, .int (-1), .int 0, .int (-1)])), (a38, .inl (k39, 10, .inr (.inr (.inr (.inr (va_up (fun _ => none) 0 (some (z.2.2.1 128))))))))]) (tc := [(kc0, .object "java/lang/Object"), (k39, .object "java/lang/Object")]) hP hD hK [0, 7, 4, 1, 5, 8, 9, 6] [2, 1] rfl rfl rfl rfl ht9 hW9, by rw [ht9]; exact Nat.le_trans (Nat.add_le_add_left (Nat.le_of_ble_eq_true rfl) _) hG⟩⟩⟩, hS.F ht9⟩) hS.2.2 dX9_putInOrder_165

set_option maxHeartbeats 4000000 in
set_option maxRecDepth 100000 in
theorem k66_init (l : Launch) (hl9 : l.stackTraces = false) (dC : Nat → ClassId) (dI : Nat → Nat → Nat) (z : XZ) (h0 h1 h2 h3 : Nat) (sz : Nat) (kc0 : ClassId) : Met l yJx35411_init_45d68 (.code yJx35411_init_45d68 cJx35411_init_45d68 2 none :: wsL_law) ({ frames := 1, cells := 0, slots := 0, locals := 16 }) (va_Pc [.ref h0, .ref h1] (PC (dC, dI) [(h0, .inr (1, [.int 0, .int 0, .int 0, .null])), (h1, .inr (0, [.int 1, .ref h2, .int 1])), (h2, .inl (kc0, 10, .inr (.inr (.inr (.inr (va_up (fun _ => none) 0 (some h3))))))), (h3, .inr (7, [.int 98, .int 120, .int 0, .int (-1), .int 0, .int (-1)]))] [(kc0, .object "java/lang/Object")] sz z)) (va_Qv (fun (_ : Unit) => True) (fun (_ : Unit) (t : State) => PG (dC, dI) [(h0, .inr (1, [.int 0, .int (-1), .int 1, .ref h1])), (h1, .inr (0, [.int 1, .ref h2, .int 1])), (h2, .inl (kc0, 10, .inr (.inr (.inr (.inr (va_up (fun _ => none) 0 (some h3))))))), (h3, .inr (7, [.int 98, .int 120, .int 0, .int (-1), .int 0, .int (-1)]))] [(kc0, .object "java/lang/Object")] (va_A [(h0, .inr (1, [.int 0, .int 0, .int 0, .null])), (h1, .inr (0, [.int 1, .ref h2, .int 1])), (h2, .inl (kc0, 10, .inr (.inr (.inr (.inr (va_up (fun _ => none) 0 (some h3))))))), (h3, .inr (7, [.int 98, .int 120, .int 0, .int (-1), .int 0, .int (-1)]))] sz) sz 0 t) (va_A [(h0, .inr (1, [.int 0, .int 0, .int 0, .null])), (h1, .inr (0, [.int 1, .ref h2, .int 1])), (h2, .inl (kc0, 10, .inr (.inr (.inr (.inr (va_up (fun _ => none) 0 (some h3))))))), (h3, .inr (7, [.int 98, .int 120, .int 0, .int (-1), .int 0, .int (-1)]))] sz)) 0 0 (va_A [(h0, .inr (1, [.int 0, .int 0, .int 0, .null])), (h1, .inr (0, [.int 1, .ref h2, .int 1])), (h2, .inl (kc0, 10, .inr (.inr (.inr (.inr (va_up (fun _ => none) 0 (some h3))))))), (h3, .inr (7, [.int 98, .int 120, .int 0, .int (-1), .int 0, .int (-1)]))] sz) := by
  refine Met.ofW (cc := cJx35411_init_45d68) (maxL := 2) (ret := none) (by decide) rfl ?_
  intro p e s m args below meth c s₁ B hml hv
  obtain ⟨rfl, hsz, hP, hK, hD0, hX, hT⟩ := hv
  have hx := B.exec
  have hb := B.bytes
  have hr := B.returns
  have hts0 := atoms_spec (ws := .code yJx35411_init_45d68 cJx35411_init_45d68 2 none :: wsL_law) B.pre
  have hts := xTail hts0
  have hown : s.vm.findClass RJx35411 = some m.cls := findClass_of_methodNamed B.named
  have hlocks := B.notSynchronized
  have hin : meth.name = "<init>" := (name_of_methodNamed B.named B.method).1
  subst hsz
  have hD := hD0.self (sz := s.heap.size)
  generalize hAe : va_A [(h0, .inr (1, [.int 0, .int 0, .int 0, .null])), (h1, .inr (0, [.int 1, .ref h2, .int 1])), (h2, .inl (kc0, 10, .inr (.inr (.inr (.inr (va_up (fun _ => none) 0 (some h3))))))), (h3, .inr (7, [.int 98, .int 120, .int 0, .int (-1), .int 0, .int (-1)]))] s.heap.size = A at hD hX ⊢
  have hA : ∀ q : Nat, s.heap.size ≤ q → A q := fun q h => by rw [← hAe]; exact Or.inr h
  have hS : va_S A s.heap s.heap [] := va_S.rf
  have hG : s.heap.size + 0 ≤ s.heap.size := Nat.le_refl _
  have hl := lv_entry ([.ref h0, .ref h1]) (n := 2) (Nat.le_of_ble_eq_true rfl)
  rw [lg_entry_eq]
  generalize (lg_sl ([.ref h0, .ref h1]) ++ List.replicate (2 - (lg_sl ([.ref h0, .ref h1])).length) Slot.unset).toArray = ls at hl ⊢
  have hl : lv_has ls 2 [(0, .ref h0), (1, .ref h1)] := hl
  refine lv_aload_n hx hb dJx35411_init_45d68_0 rfl (lv_at hl 0 rfl) ?_
  refine lv_aload_n hx hb dJx35411_init_45d68_1 rfl (lv_at hl 1 rfl) ?_
  refine va_putF (D := (dC, dI)) (ci := 1) (v := .ref h1) (ty := .object "java/util/ArrayList") (C := RJx35411) (T := TJx35411) (N := 4) hx hb hts in_Jx35411 tyJx35411 tyJx35411_ok nmJx35411 hown hK hP hD (va_Sre hS) 0 rfl rfl 3 (by decide) (hts _ q_258) (fun _ h9 => h9) rfl hin rfl (by decide +kernel) rfl rfl (Nat.le_of_ble_eq_true rfl) dJx35411_init_45d68_2 (fun H1 _ hP hD hS' => ?_)
  have hG : s.heap.size + 0 ≤ H1.size := Nat.le_trans hG hS'.1
  have hS := va_Str hS hS'
  have hP : va_P (dC, dI) xCl [(h0, .inr (1, [.int 0, .int 0, .int 0, .ref h1])), (h1, .inr (0, [.int 1, .ref h2, .int 1])), (h2, .inl (kc0, 10, .inr (.inr (.inr (.inr (va_up (fun _ => none) 0 (some h3))))))), (h3, .inr (7, [.int 98, .int 120, .int 0, .int (-1), .int 0, .int (-1)]))] H1 := hP
  have hD : va_D A [(h0, .inr (1, [.int 0, .int 0, .int 0, .ref h1])), (h1, .inr (0, [.int 1, .ref h2, .int 1])), (h2, .inl (kc0, 10, .inr (.inr (.inr (.inr (va_up (fun _ => none) 0 (some h3))))))), (h3, .inr (7, [.int 98, .int 120, .int 0, .int (-1), .int 0, .int (-1)]))] := hD
  refine lv_aload_n hx hb dJx35411_init_45d68_5 rfl (lv_at hl 0 rfl) ?_
  refine W.objInit hx hb hown (hts _ q_259) (hts _ q_1) (hts _ q_2) rfl (by rw [hml]; exact hl.1) rfl dJx35411_init_45d68_6 (Nat.le_of_ble_eq_true rfl) (Nat.le_of_ble_eq_true rfl) ?_
  refine W.eq (g2 := F0 m 9 ls []) rfl ?_
  refine lv_aload_n hx hb dJx35411_init_45d68_9 rfl (lv_at hl 0 rfl) ?_
  refine lv_iconst (v := (-1)) hx hb dJx35411_init_45d68_10 (by decide) ?_
  refine va_put (D := (dC, dI)) (ci := 1) (v := .int (-1)) (ty := .int) (C := RJx35411) (T := TJx35411) (N := 4) hx hb hts in_Jx35411 tyJx35411 tyJx35411_ok nmJx35411 hown hK hP hD (va_Sre hS) 0 rfl rfl 1 (by decide) (hts _ q_260) (fun _ h9 => h9) rfl (by decide +kernel) rfl rfl (Nat.le_of_ble_eq_true rfl) dJx35411_init_45d68_11 (fun H2 _ hP hD hS' => ?_)
  have hG : s.heap.size + 0 ≤ H2.size := Nat.le_trans hG hS'.1
  have hS := va_Str hS hS'
  have hP : va_P (dC, dI) xCl [(h0, .inr (1, [.int 0, .int (-1), .int 0, .ref h1])), (h1, .inr (0, [.int 1, .ref h2, .int 1])), (h2, .inl (kc0, 10, .inr (.inr (.inr (.inr (va_up (fun _ => none) 0 (some h3))))))), (h3, .inr (7, [.int 98, .int 120, .int 0, .int (-1), .int 0, .int (-1)]))] H2 := hP
  have hD : va_D A [(h0, .inr (1, [.int 0, .int (-1), .int 0, .ref h1])), (h1, .inr (0, [.int 1, .ref h2, .int 1])), (h2, .inl (kc0, 10, .inr (.inr (.inr (.inr (va_up (fun _ => none) 0 (some h3))))))), (h3, .inr (7, [.int 98, .int 120, .int 0, .int (-1), .int 0, .int (-1)]))] := hD
  refine lv_aload_n hx hb dJx35411_init_45d68_14 rfl (lv_at hl 0 rfl) ?_
  refine lv_aload_n hx hb dJx35411_init_45d68_15 rfl (lv_at hl 0 rfl) ?_
  refine va_get (D := (dC, dI)) (ci := 1) (v := .ref h1) (C := RJx35411) (T := TJx35411) (N := 4) hx hb hts in_Jx35411 hown hK hP 0 rfl rfl 3 (by decide) (hts _ q_258) (fun _ h9 => h9) rfl dJx35411_init_45d68_16 ?_
  refine va_get (D := (dC, dI)) (ci := 0) (v := .int 1) (C := RJx4a65c) (T := TJx4a65c) (N := 3) hx hb hts in_Jx4a65c hown hK hP 1 rfl rfl 0 (by decide) (hts _ q_261) (u_same (hts _ q_89)) rfl dJx35411_init_45d68_19 ?_
  refine va_put (D := (dC, dI)) (ci := 1) (v := .int 1) (ty := .int) (C := RJx35411) (T := TJx35411) (N := 4) hx hb hts in_Jx35411 tyJx35411 tyJx35411_ok nmJx35411 hown hK hP hD (va_Sre hS) 0 rfl rfl 2 (by decide) (hts _ q_262) (fun _ h9 => h9) rfl (by decide +kernel) rfl rfl (Nat.le_of_ble_eq_true rfl) dJx35411_init_45d68_22 (fun H3 _ hP hD hS' => ?_)
  have hG : s.heap.size + 0 ≤ H3.size := Nat.le_trans hG hS'.1
  have hS := va_Str hS hS'
  have hP : va_P (dC, dI) xCl [(h0, .inr (1, [.int 0, .int (-1), .int 1, .ref h1])), (h1, .inr (0, [.int 1, .ref h2, .int 1])), (h2, .inl (kc0, 10, .inr (.inr (.inr (.inr (va_up (fun _ => none) 0 (some h3))))))), (h3, .inr (7, [.int 98, .int 120, .int 0, .int (-1), .int 0, .int (-1)]))] H3 := hP
  have hD : va_D A [(h0, .inr (1, [.int 0, .int (-1), .int 1, .ref h1])), (h1, .inr (0, [.int 1, .ref h2, .int 1])), (h2, .inl (kc0, 10, .inr (.inr (.inr (.inr (va_up (fun _ => none) 0 (some h3))))))), (h3, .inr (7, [.int 98, .int 120, .int 0, .int (-1), .int 0, .int (-1)]))] := hD
  exact W.vret hx hb hr (fun t9 ht9 hW9 => ⟨⟨(), rfl, trivial, ⟨pq_mk (wc := [(h0, .inr (1, [.int 0, .int (-1), .int 1, .ref h1])), (h1, .inr (0, [.int 1, .ref h2, .int 1])), (h2, .inl (kc0, 10, .inr (.inr (.inr (.inr (va_up (fun _ => none) 0 (some h3))))))), (h3, .inr (7, [.int 98, .int 120, .int 0, .int (-1), .int 0, .int (-1)]))]) (tc := [(kc0, .object "java/lang/Object")]) hP hD hK [0, 1, 2, 3] [0] rfl rfl rfl rfl ht9 hW9, by rw [ht9]; exact Nat.le_trans (Nat.add_le_add_left (Nat.le_of_ble_eq_true rfl) _) hG⟩⟩, hS.F ht9⟩) hS.2.2 dJx35411_init_45d68_25

set_option maxHeartbeats 4000000 in
set_option maxRecDepth 100000 in
theorem k67_iterator (l : Launch) (hl9 : l.stackTraces = false) (dC : Nat → ClassId) (dI : Nat → Nat → Nat) (z : XZ) (h0 h1 h2 : Nat) (sz : Nat) (kc0 : ClassId) : Met l yJx4a65c_iterator_32c93 (.code yJx4a65c_iterator_32c93 cJx4a65c_iterator_32c93 1 (some (.object "java/util/Iterator")) :: wsL_law) ({ frames := 2, cells := 1, slots := 4, locals := 37 }) (va_Pc [.ref h0] (PC (dC, dI) [(h0, .inr (0, [.int 1, .ref h1, .int 1])), (h1, .inl (kc0, 10, .inr (.inr (.inr (.inr (va_up (fun _ => none) 0 (some h2))))))), (h2, .inr (7, [.int 98, .int 120, .int 0, .int (-1), .int 0, .int (-1)]))] [(kc0, .object "java/lang/Object")] sz z)) (va_Qr (fun (_ : Unit) => True) (fun (_ : Unit) (ra : Nat) (t : State) => ∃ (n0 : Nat), ra = n0 ∧ PG (dC, dI) [(h0, .inr (0, [.int 1, .ref h1, .int 1])), (h1, .inl (kc0, 10, .inr (.inr (.inr (.inr (va_up (fun _ => none) 0 (some h2))))))), (h2, .inr (7, [.int 98, .int 120, .int 0, .int (-1), .int 0, .int (-1)])), (n0, .inr (1, [.int 0, .int (-1), .int 1, .ref h0]))] [(kc0, .object "java/lang/Object")] (va_A [(h0, .inr (0, [.int 1, .ref h1, .int 1])), (h1, .inl (kc0, 10, .inr (.inr (.inr (.inr (va_up (fun _ => none) 0 (some h2))))))), (h2, .inr (7, [.int 98, .int 120, .int 0, .int (-1), .int 0, .int (-1)]))] sz) sz 1 t) (va_A [(h0, .inr (0, [.int 1, .ref h1, .int 1])), (h1, .inl (kc0, 10, .inr (.inr (.inr (.inr (va_up (fun _ => none) 0 (some h2))))))), (h2, .inr (7, [.int 98, .int 120, .int 0, .int (-1), .int 0, .int (-1)]))] sz)) 1 4 (va_A [(h0, .inr (0, [.int 1, .ref h1, .int 1])), (h1, .inl (kc0, 10, .inr (.inr (.inr (.inr (va_up (fun _ => none) 0 (some h2))))))), (h2, .inr (7, [.int 98, .int 120, .int 0, .int (-1), .int 0, .int (-1)]))] sz) := by
  refine Met.ofW (cc := cJx4a65c_iterator_32c93) (maxL := 1) (ret := (some (.object "java/util/Iterator"))) (by decide) rfl ?_
  intro p e s m args below meth c s₁ B hml hv
  obtain ⟨rfl, hsz, hP, hK, hD0, hX, hT⟩ := hv
  have hx := B.exec
  have hb := B.bytes
  have hr := B.returns
  have hts0 := atoms_spec (ws := .code yJx4a65c_iterator_32c93 cJx4a65c_iterator_32c93 1 (some (.object "java/util/Iterator")) :: wsL_law) B.pre
  have hts := xTail hts0
  have hown : s.vm.findClass RJx4a65c = some m.cls := findClass_of_methodNamed B.named
  have hlocks := B.notSynchronized
  subst hsz
  have hD := hD0.self (sz := s.heap.size)
  generalize hAe : va_A [(h0, .inr (0, [.int 1, .ref h1, .int 1])), (h1, .inl (kc0, 10, .inr (.inr (.inr (.inr (va_up (fun _ => none) 0 (some h2))))))), (h2, .inr (7, [.int 98, .int 120, .int 0, .int (-1), .int 0, .int (-1)]))] s.heap.size = A at hD hX ⊢
  have hA : ∀ q : Nat, s.heap.size ≤ q → A q := fun q h => by rw [← hAe]; exact Or.inr h
  have hS : va_S A s.heap s.heap [] := va_S.rf
  have hG : s.heap.size + 0 ≤ s.heap.size := Nat.le_refl _
  have hl := lv_entry ([.ref h0]) (n := 1) (Nat.le_of_ble_eq_true rfl)
  rw [lg_entry_eq]
  generalize (lg_sl ([.ref h0]) ++ List.replicate (1 - (lg_sl ([.ref h0])).length) Slot.unset).toArray = ls at hl ⊢
  have hl : lv_has ls 1 [(0, .ref h0)] := hl
  refine xa_new (ci := 1) (fs := [.int 0, .int 0, .int 0, .null]) (C := RJx35411) (T := TJx35411) (N := 4) hx hb hts in_Jx35411 tyJx35411 tyJx35411_ok hown (hts _ q_255) (hts _ q_256) (hts _ q_257) hK hP hD hS hA rfl nf_Jx35411 (Nat.le_of_ble_eq_true rfl) (Nat.le_of_ble_eq_true rfl) dJx4a65c_iterator_32c93_0 (fun a1 H2 hg8 hP hD hS => ?_)
  have hG : s.heap.size + 1 ≤ H2.size := by rw [hg8]; exact Nat.succ_le_succ hG
  have hP : va_P (dC, dI) xCl [(h0, .inr (0, [.int 1, .ref h1, .int 1])), (h1, .inl (kc0, 10, .inr (.inr (.inr (.inr (va_up (fun _ => none) 0 (some h2))))))), (h2, .inr (7, [.int 98, .int 120, .int 0, .int (-1), .int 0, .int (-1)])), (a1, .inr (1, [.int 0, .int 0, .int 0, .null]))] H2 := hP
  have hD : va_D A [(h0, .inr (0, [.int 1, .ref h1, .int 1])), (h1, .inl (kc0, 10, .inr (.inr (.inr (.inr (va_up (fun _ => none) 0 (some h2))))))), (h2, .inr (7, [.int 98, .int 120, .int 0, .int (-1), .int 0, .int (-1)])), (a1, .inr (1, [.int 0, .int 0, .int 0, .null]))] := hD
  refine W.widen (k := 1) (n := 4) (by decide) (by decide) ?_
  refine lv_dup hx hb dJx4a65c_iterator_32c93_3 rfl ?_
  refine lv_aload_n hx hb dJx4a65c_iterator_32c93_4 rfl (lv_at hl 0 rfl) ?_
  have hF3 := va_free (wc := [(a1, .inr (1, [.int 0, .int 0, .int 0, .null])), (h0, .inr (0, [.int 1, .ref h1, .int 1])), (h1, .inl (kc0, 10, .inr (.inr (.inr (.inr (va_up (fun _ => none) 0 (some h2))))))), (h2, .inr (7, [.int 98, .int 120, .int 0, .int (-1), .int 0, .int (-1)]))]) hD hS hA [3, 0, 1, 2] rfl
  refine va_callv (va_runI (As := [.ref h0]) (rest := [.ref a1]) ⟨hx, hb, hml, hown, hts⟩ (k66_init l hl9 dC dI z a1 h0 h1 h2 H2.size kc0) (cwI 1 hts (gIL q_263) rfl rfl rfl (hts _ q_257) (hts _ q_264) (hts _ q_265) rfl (by decide +kernel) ⟨Nat.le_of_ble_eq_true rfl, Nat.le_of_ble_eq_true rfl⟩) ⟨pc_blind, fun U hU hW => ⟨rfl, pc_mk hP hD hK hS hX hT [3, 0, 1, 2] [0] rfl rfl rfl rfl hF3 hU hW⟩⟩ rfl rfl hl.1 rfl (lv_room (Nat.le_of_ble_eq_true rfl)) dJx4a65c_iterator_32c93_5 ⟨(Nat.le_of_ble_eq_true rfl), (Nat.le_of_ble_eq_true rfl)⟩) hS (fun q9 _ h9 => hF3 q9 h9) hF3 (fun u5 t5 H5 L5 ht5 hvm5 hw5 hB5 hz5 hk5 hS => ?_)
  obtain ⟨hP, hD, hK⟩ := pq_join (wr := []) (tr := []) (wz := [(a1, .inr (1, [.int 0, .int (-1), .int 1, .ref h0])), (h0, .inr (0, [.int 1, .ref h1, .int 1])), (h1, .inl (kc0, 10, .inr (.inr (.inr (.inr (va_up (fun _ => none) 0 (some h2))))))), (h2, .inr (7, [.int 98, .int 120, .int 0, .int (-1), .int 0, .int (-1)]))]) (tz := [(kc0, .object "java/lang/Object")]) hP hD hK [3, 0, 1, 2] [] [] rfl rfl (by decide) (by decide) rfl hk5 hF3 hB5.1 ht5 hvm5 rfl rfl
  have hG : s.heap.size + 1 ≤ H5.size := Nat.le_trans hG hz5
  exact W.aret (v := .ref a1) hx hb hr (by first | exact Or.inl ⟨_, rfl⟩ | exact Or.inr ⟨_, rfl⟩) (Or.inr ⟨_, rfl⟩) (fun t9 ht9 hW9 => ⟨⟨(), a1, rfl, trivial, ⟨a1, rfl, ⟨pq_mk (wc := [(h0, .inr (0, [.int 1, .ref h1, .int 1])), (h1, .inl (kc0, 10, .inr (.inr (.inr (.inr (va_up (fun _ => none) 0 (some h2))))))), (h2, .inr (7, [.int 98, .int 120, .int 0, .int (-1), .int 0, .int (-1)])), (a1, .inr (1, [.int 0, .int (-1), .int 1, .ref h0]))]) (tc := [(kc0, .object "java/lang/Object")]) hP hD hK [1, 2, 3, 0] [0] rfl rfl rfl rfl ht9 hW9, by rw [ht9]; exact Nat.le_trans (Nat.add_le_add_left (Nat.le_of_ble_eq_true rfl) _) hG⟩⟩⟩, hS.F ht9⟩) hS.2.2 dJx4a65c_iterator_32c93_8

set_option maxHeartbeats 4000000 in
set_option maxRecDepth 100000 in
theorem k68_hasNext (l : Launch) (hl9 : l.stackTraces = false) (dC : Nat → ClassId) (dI : Nat → Nat → Nat) (z : XZ) (h0 h1 h2 h3 : Nat) (sz : Nat) (kc0 : ClassId) : Met l yJx35411_hasNext_aae02 (.code yJx35411_hasNext_aae02 cJx35411_hasNext_aae02 1 (some .boolean) :: wsL_law) ({ frames := 0, cells := 0, slots := 0, locals := 0 }) (va_Pc [.ref h0] (PC (dC, dI) [(h0, .inr (1, [.int 0, .int (-1), .int 1, .ref h1])), (h1, .inr (0, [.int 1, .ref h2, .int 1])), (h2, .inl (kc0, 10, .inr (.inr (.inr (.inr (va_up (fun _ => none) 0 (some h3))))))), (h3, .inr (7, [.int 98, .int 120, .int 0, .int (-1), .int 0, .int (-1)]))] [(kc0, .object "java/lang/Object")] sz z)) (va_Qi (fun (r : Int32) (_ : Unit) => r = 1) (fun (_ : Unit) (t : State) => PG (dC, dI) [(h0, .inr (1, [.int 0, .int (-1), .int 1, .ref h1])), (h1, .inr (0, [.int 1, .ref h2, .int 1])), (h2, .inl (kc0, 10, .inr (.inr (.inr (.inr (va_up (fun _ => none) 0 (some h3))))))), (h3, .inr (7, [.int 98, .int 120, .int 0, .int (-1), .int 0, .int (-1)]))] [(kc0, .object "java/lang/Object")] (va_A [(h0, .inr (1, [.int 0, .int (-1), .int 1, .ref h1])), (h1, .inr (0, [.int 1, .ref h2, .int 1])), (h2, .inl (kc0, 10, .inr (.inr (.inr (.inr (va_up (fun _ => none) 0 (some h3))))))), (h3, .inr (7, [.int 98, .int 120, .int 0, .int (-1), .int 0, .int (-1)]))] sz) sz 0 t) (va_A [(h0, .inr (1, [.int 0, .int (-1), .int 1, .ref h1])), (h1, .inr (0, [.int 1, .ref h2, .int 1])), (h2, .inl (kc0, 10, .inr (.inr (.inr (.inr (va_up (fun _ => none) 0 (some h3))))))), (h3, .inr (7, [.int 98, .int 120, .int 0, .int (-1), .int 0, .int (-1)]))] sz)) 0 0 (va_A [(h0, .inr (1, [.int 0, .int (-1), .int 1, .ref h1])), (h1, .inr (0, [.int 1, .ref h2, .int 1])), (h2, .inl (kc0, 10, .inr (.inr (.inr (.inr (va_up (fun _ => none) 0 (some h3))))))), (h3, .inr (7, [.int 98, .int 120, .int 0, .int (-1), .int 0, .int (-1)]))] sz) := by
  refine Met.ofW (cc := cJx35411_hasNext_aae02) (maxL := 1) (ret := (some .boolean)) (by decide) rfl ?_
  intro p e s m args below meth c s₁ B hml hv
  obtain ⟨rfl, hsz, hP, hK, hD0, hX, hT⟩ := hv
  have hx := B.exec
  have hb := B.bytes
  have hr := B.returns
  have hts0 := atoms_spec (ws := .code yJx35411_hasNext_aae02 cJx35411_hasNext_aae02 1 (some .boolean) :: wsL_law) B.pre
  have hts := xTail hts0
  have hown : s.vm.findClass RJx35411 = some m.cls := findClass_of_methodNamed B.named
  have hlocks := B.notSynchronized
  subst hsz
  have hD := hD0.self (sz := s.heap.size)
  generalize hAe : va_A [(h0, .inr (1, [.int 0, .int (-1), .int 1, .ref h1])), (h1, .inr (0, [.int 1, .ref h2, .int 1])), (h2, .inl (kc0, 10, .inr (.inr (.inr (.inr (va_up (fun _ => none) 0 (some h3))))))), (h3, .inr (7, [.int 98, .int 120, .int 0, .int (-1), .int 0, .int (-1)]))] s.heap.size = A at hD hX ⊢
  have hA : ∀ q : Nat, s.heap.size ≤ q → A q := fun q h => by rw [← hAe]; exact Or.inr h
  have hS : va_S A s.heap s.heap [] := va_S.rf
  have hG : s.heap.size + 0 ≤ s.heap.size := Nat.le_refl _
  have hl := lv_entry ([.ref h0]) (n := 1) (Nat.le_of_ble_eq_true rfl)
  rw [lg_entry_eq]
  generalize (lg_sl ([.ref h0]) ++ List.replicate (1 - (lg_sl ([.ref h0])).length) Slot.unset).toArray = ls at hl ⊢
  have hl : lv_has ls 1 [(0, .ref h0)] := hl
  refine lv_aload_n hx hb dJx35411_hasNext_aae02_0 rfl (lv_at hl 0 rfl) ?_
  refine va_get (D := (dC, dI)) (ci := 1) (v := .int 0) (C := RJx35411) (T := TJx35411) (N := 4) hx hb hts in_Jx35411 hown hK hP 0 rfl rfl 0 (by decide) (hts _ q_270) (fun _ h9 => h9) rfl dJx35411_hasNext_aae02_1 ?_
  refine lv_aload_n hx hb dJx35411_hasNext_aae02_4 rfl (lv_at hl 0 rfl) ?_
  refine va_get (D := (dC, dI)) (ci := 1) (v := .ref h1) (C := RJx35411) (T := TJx35411) (N := 4) hx hb hts in_Jx35411 hown hK hP 0 rfl rfl 3 (by decide) (hts _ q_258) (fun _ h9 => h9) rfl dJx35411_hasNext_aae02_5 ?_
  refine va_getN (D := (dC, dI)) (ci := 0) (v := .int 1) (C := RJx4a65c) (T := TJx4a65c) (N := 3) hx hb hts in_Jx4a65c hown hK hP 1 rfl rfl 2 (by decide) (va_Nw.use rfl hT.2.2.2.2.1) (fun _ h9 => h9) rfl dJx35411_hasNext_aae02_8 ?_
  refine lv_icmp_eq (tgt := 18) hx hb dJx35411_hasNext_aae02_11 (by decide) (fun cz => absurd cz (by decide)) (fun _ => ?_)
  refine lv_iconst (v := 1) hx hb dJx35411_hasNext_aae02_14 (by decide) ?_
  refine lv_goto (tgt := 19) hx hb dJx35411_hasNext_aae02_15 (by decide) ?_
  exact W.zret (v := 1) (ty := .boolean) hx hb hr rfl (fun t9 ht9 hW9 => ⟨⟨1, (), rfl, rfl, ⟨pq_mk (wc := [(h0, .inr (1, [.int 0, .int (-1), .int 1, .ref h1])), (h1, .inr (0, [.int 1, .ref h2, .int 1])), (h2, .inl (kc0, 10, .inr (.inr (.inr (.inr (va_up (fun _ => none) 0 (some h3))))))), (h3, .inr (7, [.int 98, .int 120, .int 0, .int (-1), .int 0, .int (-1)]))]) (tc := [(kc0, .object "java/lang/Object")]) hP hD hK [0, 1, 2, 3] [0] rfl rfl rfl rfl ht9 hW9, by rw [ht9]; exact Nat.le_trans (Nat.add_le_add_left (Nat.le_of_ble_eq_true rfl) _) hG⟩⟩, hS.F ht9⟩) hS.2.2 dJx35411_hasNext_aae02_19

set_option maxHeartbeats 4000000 in
set_option maxRecDepth 100000 in
theorem k69_checkForComodification (l : Launch) (hl9 : l.stackTraces = false) (dC : Nat → ClassId) (dI : Nat → Nat → Nat) (z : XZ) (h0 h1 h2 h3 : Nat) (sz : Nat) (kc0 : ClassId) : Met l yJx35411_checkForComodification_da8c8 (.code yJx35411_checkForComodification_da8c8 cJx35411_checkForComodification_da8c8 1 none :: wsL_law) ({ frames := 0, cells := 0, slots := 0, locals := 0 }) (va_Pc [.ref h0] (PC (dC, dI) [(h0, .inr (1, [.int 0, .int (-1), .int 1, .ref h1])), (h1, .inr (0, [.int 1, .ref h2, .int 1])), (h2, .inl (kc0, 10, .inr (.inr (.inr (.inr (va_up (fun _ => none) 0 (some h3))))))), (h3, .inr (7, [.int 98, .int 120, .int 0, .int (-1), .int 0, .int (-1)]))] [(kc0, .object "java/lang/Object")] sz z)) (va_Qv (fun (_ : Unit) => True) (fun (_ : Unit) (t : State) => PG (dC, dI) [(h0, .inr (1, [.int 0, .int (-1), .int 1, .ref h1])), (h1, .inr (0, [.int 1, .ref h2, .int 1])), (h2, .inl (kc0, 10, .inr (.inr (.inr (.inr (va_up (fun _ => none) 0 (some h3))))))), (h3, .inr (7, [.int 98, .int 120, .int 0, .int (-1), .int 0, .int (-1)]))] [(kc0, .object "java/lang/Object")] (va_A [(h0, .inr (1, [.int 0, .int (-1), .int 1, .ref h1])), (h1, .inr (0, [.int 1, .ref h2, .int 1])), (h2, .inl (kc0, 10, .inr (.inr (.inr (.inr (va_up (fun _ => none) 0 (some h3))))))), (h3, .inr (7, [.int 98, .int 120, .int 0, .int (-1), .int 0, .int (-1)]))] sz) sz 0 t) (va_A [(h0, .inr (1, [.int 0, .int (-1), .int 1, .ref h1])), (h1, .inr (0, [.int 1, .ref h2, .int 1])), (h2, .inl (kc0, 10, .inr (.inr (.inr (.inr (va_up (fun _ => none) 0 (some h3))))))), (h3, .inr (7, [.int 98, .int 120, .int 0, .int (-1), .int 0, .int (-1)]))] sz)) 0 0 (va_A [(h0, .inr (1, [.int 0, .int (-1), .int 1, .ref h1])), (h1, .inr (0, [.int 1, .ref h2, .int 1])), (h2, .inl (kc0, 10, .inr (.inr (.inr (.inr (va_up (fun _ => none) 0 (some h3))))))), (h3, .inr (7, [.int 98, .int 120, .int 0, .int (-1), .int 0, .int (-1)]))] sz) := by
  refine Met.ofW (cc := cJx35411_checkForComodification_da8c8) (maxL := 1) (ret := none) (by decide) rfl ?_
  intro p e s m args below meth c s₁ B hml hv
  obtain ⟨rfl, hsz, hP, hK, hD0, hX, hT⟩ := hv
  have hx := B.exec
  have hb := B.bytes
  have hr := B.returns
  have hts0 := atoms_spec (ws := .code yJx35411_checkForComodification_da8c8 cJx35411_checkForComodification_da8c8 1 none :: wsL_law) B.pre
  have hts := xTail hts0
  have hown : s.vm.findClass RJx35411 = some m.cls := findClass_of_methodNamed B.named
  have hlocks := B.notSynchronized
  subst hsz
  have hD := hD0.self (sz := s.heap.size)
  generalize hAe : va_A [(h0, .inr (1, [.int 0, .int (-1), .int 1, .ref h1])), (h1, .inr (0, [.int 1, .ref h2, .int 1])), (h2, .inl (kc0, 10, .inr (.inr (.inr (.inr (va_up (fun _ => none) 0 (some h3))))))), (h3, .inr (7, [.int 98, .int 120, .int 0, .int (-1), .int 0, .int (-1)]))] s.heap.size = A at hD hX ⊢
  have hA : ∀ q : Nat, s.heap.size ≤ q → A q := fun q h => by rw [← hAe]; exact Or.inr h
  have hS : va_S A s.heap s.heap [] := va_S.rf
  have hG : s.heap.size + 0 ≤ s.heap.size := Nat.le_refl _
  have hl := lv_entry ([.ref h0]) (n := 1) (Nat.le_of_ble_eq_true rfl)
  rw [lg_entry_eq]
  generalize (lg_sl ([.ref h0]) ++ List.replicate (1 - (lg_sl ([.ref h0])).length) Slot.unset).toArray = ls at hl ⊢
  have hl : lv_has ls 1 [(0, .ref h0)] := hl
  refine lv_aload_n hx hb dJx35411_checkForComodification_da8c8_0 rfl (lv_at hl 0 rfl) ?_
  refine va_get (D := (dC, dI)) (ci := 1) (v := .ref h1) (C := RJx35411) (T := TJx35411) (N := 4) hx hb hts in_Jx35411 hown hK hP 0 rfl rfl 3 (by decide) (hts _ q_258) (fun _ h9 => h9) rfl dJx35411_checkForComodification_da8c8_1 ?_
  refine va_get (D := (dC, dI)) (ci := 0) (v := .int 1) (C := RJx4a65c) (T := TJx4a65c) (N := 3) hx hb hts in_Jx4a65c hown hK hP 1 rfl rfl 0 (by decide) (hts _ q_261) (u_same (hts _ q_89)) rfl dJx35411_checkForComodification_da8c8_4 ?_
  refine lv_aload_n hx hb dJx35411_checkForComodification_da8c8_7 rfl (lv_at hl 0 rfl) ?_
  refine va_get (D := (dC, dI)) (ci := 1) (v := .int 1) (C := RJx35411) (T := TJx35411) (N := 4) hx hb hts in_Jx35411 hown hK hP 0 rfl rfl 2 (by decide) (hts _ q_262) (fun _ h9 => h9) rfl dJx35411_checkForComodification_da8c8_8 ?_
  refine lv_icmp_eq (tgt := 22) hx hb dJx35411_checkForComodification_da8c8_11 (by decide) (fun _ => ?_) (fun cz => absurd (by decide) cz)
  exact W.vret hx hb hr (fun t9 ht9 hW9 => ⟨⟨(), rfl, trivial, ⟨pq_mk (wc := [(h0, .inr (1, [.int 0, .int (-1), .int 1, .ref h1])), (h1, .inr (0, [.int 1, .ref h2, .int 1])), (h2, .inl (kc0, 10, .inr (.inr (.inr (.inr (va_up (fun _ => none) 0 (some h3))))))), (h3, .inr (7, [.int 98, .int 120, .int 0, .int (-1), .int 0, .int (-1)]))]) (tc := [(kc0, .object "java/lang/Object")]) hP hD hK [0, 1, 2, 3] [0] rfl rfl rfl rfl ht9 hW9, by rw [ht9]; exact Nat.le_trans (Nat.add_le_add_left (Nat.le_of_ble_eq_true rfl) _) hG⟩⟩, hS.F ht9⟩) hS.2.2 dJx35411_checkForComodification_da8c8_22

set_option maxHeartbeats 4000000 in
set_option maxRecDepth 100000 in
theorem k70_next (l : Launch) (hl9 : l.stackTraces = false) (dC : Nat → ClassId) (dI : Nat → Nat → Nat) (z : XZ) (h0 h1 h2 h3 : Nat) (sz : Nat) (kc0 : ClassId) : Met l yJx35411_next_0502b (.code yJx35411_next_0502b cJx35411_next_0502b 3 (some (.object "java/lang/Object")) :: wsL_law) ({ frames := 1, cells := 0, slots := 0, locals := 20 }) (va_Pc [.ref h0] (PC (dC, dI) [(h0, .inr (1, [.int 0, .int (-1), .int 1, .ref h1])), (h1, .inr (0, [.int 1, .ref h2, .int 1])), (h2, .inl (kc0, 10, .inr (.inr (.inr (.inr (va_up (fun _ => none) 0 (some h3))))))), (h3, .inr (7, [.int 98, .int 120, .int 0, .int (-1), .int 0, .int (-1)]))] [(kc0, .object "java/lang/Object")] sz z)) (va_Qr (fun (_ : Unit) => True) (fun (_ : Unit) (ra : Nat) (t : State) => ra = h3 ∧ PG (dC, dI) [(h0, .inr (1, [.int 1, .int 0, .int 1, .ref h1])), (h1, .inr (0, [.int 1, .ref h2, .int 1])), (h2, .inl (kc0, 10, .inr (.inr (.inr (.inr (va_up (fun _ => none) 0 (some h3))))))), (h3, .inr (7, [.int 98, .int 120, .int 0, .int (-1), .int 0, .int (-1)]))] [(kc0, .object "java/lang/Object")] (va_A [(h0, .inr (1, [.int 0, .int (-1), .int 1, .ref h1])), (h1, .inr (0, [.int 1, .ref h2, .int 1])), (h2, .inl (kc0, 10, .inr (.inr (.inr (.inr (va_up (fun _ => none) 0 (some h3))))))), (h3, .inr (7, [.int 98, .int 120, .int 0, .int (-1), .int 0, .int (-1)]))] sz) sz 0 t) (va_A [(h0, .inr (1, [.int 0, .int (-1), .int 1, .ref h1])), (h1, .inr (0, [.int 1, .ref h2, .int 1])), (h2, .inl (kc0, 10, .inr (.inr (.inr (.inr (va_up (fun _ => none) 0 (some h3))))))), (h3, .inr (7, [.int 98, .int 120, .int 0, .int (-1), .int 0, .int (-1)]))] sz)) 0 0 (va_A [(h0, .inr (1, [.int 0, .int (-1), .int 1, .ref h1])), (h1, .inr (0, [.int 1, .ref h2, .int 1])), (h2, .inl (kc0, 10, .inr (.inr (.inr (.inr (va_up (fun _ => none) 0 (some h3))))))), (h3, .inr (7, [.int 98, .int 120, .int 0, .int (-1), .int 0, .int (-1)]))] sz) := by
  refine Met.ofW (cc := cJx35411_next_0502b) (maxL := 3) (ret := (some (.object "java/lang/Object"))) (by decide) rfl ?_
  intro p e s m args below meth c s₁ B hml hv
  obtain ⟨rfl, hsz, hP, hK, hD0, hX, hT⟩ := hv
  have hx := B.exec
  have hb := B.bytes
  have hr := B.returns
  have hts0 := atoms_spec (ws := .code yJx35411_next_0502b cJx35411_next_0502b 3 (some (.object "java/lang/Object")) :: wsL_law) B.pre
  have hts := xTail hts0
  have hown : s.vm.findClass RJx35411 = some m.cls := findClass_of_methodNamed B.named
  have hlocks := B.notSynchronized
  subst hsz
  have hD := hD0.self (sz := s.heap.size)
  generalize hAe : va_A [(h0, .inr (1, [.int 0, .int (-1), .int 1, .ref h1])), (h1, .inr (0, [.int 1, .ref h2, .int 1])), (h2, .inl (kc0, 10, .inr (.inr (.inr (.inr (va_up (fun _ => none) 0 (some h3))))))), (h3, .inr (7, [.int 98, .int 120, .int 0, .int (-1), .int 0, .int (-1)]))] s.heap.size = A at hD hX ⊢
  have hA : ∀ q : Nat, s.heap.size ≤ q → A q := fun q h => by rw [← hAe]; exact Or.inr h
  have hS : va_S A s.heap s.heap [] := va_S.rf
  have hG : s.heap.size + 0 ≤ s.heap.size := Nat.le_refl _
  have hl := lv_entry ([.ref h0]) (n := 3) (Nat.le_of_ble_eq_true rfl)
  rw [lg_entry_eq]
  generalize (lg_sl ([.ref h0]) ++ List.replicate (3 - (lg_sl ([.ref h0])).length) Slot.unset).toArray = ls at hl ⊢
  have hl : lv_has ls 3 [(0, .ref h0)] := hl
  refine lv_aload_n hx hb dJx35411_next_0502b_0 rfl (lv_at hl 0 rfl) ?_
  have hF1 := va_free (wc := [(h0, .inr (1, [.int 0, .int (-1), .int 1, .ref h1])), (h1, .inr (0, [.int 1, .ref h2, .int 1])), (h2, .inl (kc0, 10, .inr (.inr (.inr (.inr (va_up (fun _ => none) 0 (some h3))))))), (h3, .inr (7, [.int 98, .int 120, .int 0, .int (-1), .int 0, .int (-1)]))]) hD hS hA [0, 1, 2, 3] rfl
  refine va_callv (va_runV (As := []) (rest := []) ⟨hx, hb, hml, hown, hts⟩ (k69_checkForComodification l hl9 dC dI z h0 h1 h2 h3 s.heap.size kc0) (cwV 0 hts (gV q_286 q_287 q_288 q_257 q_285) rfl rfl rfl (by decide +kernel) ⟨Nat.le_of_ble_eq_true rfl, Nat.le_of_ble_eq_true rfl⟩) ⟨pc_blind, va_recv hK hP (ci := 1) (q0 := 0) rfl rfl, fun U hU hW => ⟨rfl, pc_mk hP hD hK hS hX hT [0, 1, 2, 3] [0] rfl rfl rfl rfl hF1 hU hW⟩⟩ rfl rfl hl.1 rfl (lv_room (Nat.le_of_ble_eq_true rfl)) dJx35411_next_0502b_1 ⟨(Nat.le_of_ble_eq_true rfl), (Nat.le_of_ble_eq_true rfl)⟩) hS (fun q9 _ h9 => hF1 q9 h9) hF1 (fun u3 t3 H3 L3 ht3 hvm3 hw3 hB3 hz3 hk3 hS => ?_)
  obtain ⟨hP, hD, hK⟩ := pq_join (wr := []) (tr := []) (wz := [(h0, .inr (1, [.int 0, .int (-1), .int 1, .ref h1])), (h1, .inr (0, [.int 1, .ref h2, .int 1])), (h2, .inl (kc0, 10, .inr (.inr (.inr (.inr (va_up (fun _ => none) 0 (some h3))))))), (h3, .inr (7, [.int 98, .int 120, .int 0, .int (-1), .int 0, .int (-1)]))]) (tz := [(kc0, .object "java/lang/Object")]) hP hD hK [0, 1, 2, 3] [] [] rfl rfl (by decide) (by decide) rfl hk3 hF1 hB3.1 ht3 hvm3 rfl rfl
  have hG : s.heap.size + 0 ≤ H3.size := Nat.le_trans hG hz3
  refine lv_aload_n hx hb dJx35411_next_0502b_4 rfl (lv_at hl 0 rfl) ?_
  refine va_get (D := (dC, dI)) (ci := 1) (v := .int 0) (C := RJx35411) (T := TJx35411) (N := 4) hx hb hts in_Jx35411 hown hK hP 0 rfl rfl 0 (by decide) (hts _ q_270) (fun _ h9 => h9) rfl dJx35411_next_0502b_5 ?_
  refine lv_istore_n (lv' := [(1, .int 0), (0, .ref h0)]) hx hb dJx35411_next_0502b_8 rfl hl (by decide) rfl (fun ls hl => ?_)
  refine lv_iload_n hx hb dJx35411_next_0502b_9 rfl (lv_at hl 0 rfl) ?_
  refine lv_aload_n hx hb dJx35411_next_0502b_10 rfl (lv_at hl 1 rfl) ?_
  refine va_get (D := (dC, dI)) (ci := 1) (v := .ref h1) (C := RJx35411) (T := TJx35411) (N := 4) hx hb hts in_Jx35411 hown hK hP 0 rfl rfl 3 (by decide) (hts _ q_258) (fun _ h9 => h9) rfl dJx35411_next_0502b_11 ?_
  refine va_getN (D := (dC, dI)) (ci := 0) (v := .int 1) (C := RJx4a65c) (T := TJx4a65c) (N := 3) hx hb hts in_Jx4a65c hown hK hP 1 rfl rfl 2 (by decide) (va_Nw.use rfl hT.2.2.2.2.1) (fun _ h9 => h9) rfl dJx35411_next_0502b_14 ?_
  refine lv_icmp_lt (tgt := 28) hx hb dJx35411_next_0502b_17 (by decide) (fun _ => ?_) (fun cz => absurd (by decide) cz)
  refine lv_aload_n hx hb dJx35411_next_0502b_28 rfl (lv_at hl 1 rfl) ?_
  refine va_get (D := (dC, dI)) (ci := 1) (v := .ref h1) (C := RJx35411) (T := TJx35411) (N := 4) hx hb hts in_Jx35411 hown hK hP 0 rfl rfl 3 (by decide) (hts _ q_258) (fun _ h9 => h9) rfl dJx35411_next_0502b_29 ?_
  refine va_get (D := (dC, dI)) (ci := 0) (v := .ref h2) (C := RJx4a65c) (T := TJx4a65c) (N := 3) hx hb hts in_Jx4a65c hown hK hP 1 rfl rfl 1 (by decide) (hts _ q_289) (fun _ h9 => h9) rfl dJx35411_next_0502b_32 ?_
  refine lv_astore_n (lv' := [(2, .ref h2), (1, .int 0), (0, .ref h0)]) hx hb dJx35411_next_0502b_35 rfl hl (by decide) rfl (fun ls hl => ?_)
  refine lv_iload_n hx hb dJx35411_next_0502b_36 rfl (lv_at hl 1 rfl) ?_
  refine lv_aload_n hx hb dJx35411_next_0502b_37 rfl (lv_at hl 0 rfl) ?_
  refine va_alen hx hb hK hP 2 0 rfl rfl (v := 10) rfl dJx35411_next_0502b_38 ?_
  refine lv_icmp_lt (tgt := 50) hx hb dJx35411_next_0502b_39 (by decide) (fun _ => ?_) (fun cz => absurd (by decide) cz)
  refine lv_aload_n hx hb dJx35411_next_0502b_50 rfl (lv_at hl 2 rfl) ?_
  refine lv_iload_n hx hb dJx35411_next_0502b_51 rfl (lv_at hl 1 rfl) ?_
  refine lv_iconst (v := 1) hx hb dJx35411_next_0502b_52 (by decide) ?_
  refine lv_iadd hx hb dJx35411_next_0502b_53 ?_
  refine lv_topi (fun y5 ey5 => ?_)
  obtain rfl : y5 = 1 := ey5.trans (by decide)
  refine va_put (D := (dC, dI)) (ci := 1) (v := .int 1) (ty := .int) (C := RJx35411) (T := TJx35411) (N := 4) hx hb hts in_Jx35411 tyJx35411 tyJx35411_ok nmJx35411 hown hK hP hD (va_Sre hS) 0 rfl rfl 0 (by decide) (hts _ q_270) (fun _ h9 => h9) rfl (by decide +kernel) rfl rfl (Nat.le_of_ble_eq_true rfl) dJx35411_next_0502b_54 (fun H6 _ hP hD hS' => ?_)
  have hG : s.heap.size + 0 ≤ H6.size := Nat.le_trans hG hS'.1
  have hS := va_Str hS hS'
  have hP : va_P (dC, dI) xCl [(h0, .inr (1, [.int 1, .int (-1), .int 1, .ref h1])), (h1, .inr (0, [.int 1, .ref h2, .int 1])), (h2, .inl (kc0, 10, .inr (.inr (.inr (.inr (va_up (fun _ => none) 0 (some h3))))))), (h3, .inr (7, [.int 98, .int 120, .int 0, .int (-1), .int 0, .int (-1)]))] H6 := hP
  have hD : va_D A [(h0, .inr (1, [.int 1, .int (-1), .int 1, .ref h1])), (h1, .inr (0, [.int 1, .ref h2, .int 1])), (h2, .inl (kc0, 10, .inr (.inr (.inr (.inr (va_up (fun _ => none) 0 (some h3))))))), (h3, .inr (7, [.int 98, .int 120, .int 0, .int (-1), .int 0, .int (-1)]))] := hD
  refine lv_aload_n hx hb dJx35411_next_0502b_57 rfl (lv_at hl 0 rfl) ?_
  refine lv_aload_n hx hb dJx35411_next_0502b_58 rfl (lv_at hl 2 rfl) ?_
  refine lv_iload_n hx hb dJx35411_next_0502b_59 rfl (lv_at hl 1 rfl) ?_
  refine lv_dup_x1 hx hb dJx35411_next_0502b_60 rfl rfl ?_
  refine va_put (D := (dC, dI)) (ci := 1) (v := .int 0) (ty := .int) (C := RJx35411) (T := TJx35411) (N := 4) hx hb hts in_Jx35411 tyJx35411 tyJx35411_ok nmJx35411 hown hK hP hD (va_Sre hS) 0 rfl rfl 1 (by decide) (hts _ q_260) (fun _ h9 => h9) rfl (by decide +kernel) rfl rfl (Nat.le_of_ble_eq_true rfl) dJx35411_next_0502b_61 (fun H7 _ hP hD hS' => ?_)
  have hG : s.heap.size + 0 ≤ H7.size := Nat.le_trans hG hS'.1
  have hS := va_Str hS hS'
  have hP : va_P (dC, dI) xCl [(h0, .inr (1, [.int 1, .int 0, .int 1, .ref h1])), (h1, .inr (0, [.int 1, .ref h2, .int 1])), (h2, .inl (kc0, 10, .inr (.inr (.inr (.inr (va_up (fun _ => none) 0 (some h3))))))), (h3, .inr (7, [.int 98, .int 120, .int 0, .int (-1), .int 0, .int (-1)]))] H7 := hP
  have hD : va_D A [(h0, .inr (1, [.int 1, .int 0, .int 1, .ref h1])), (h1, .inr (0, [.int 1, .ref h2, .int 1])), (h2, .inl (kc0, 10, .inr (.inr (.inr (.inr (va_up (fun _ => none) 0 (some h3))))))), (h3, .inr (7, [.int 98, .int 120, .int 0, .int (-1), .int 0, .int (-1)]))] := hD
  refine va_aldq hx hb hK hP 2 0 rfl rfl (i := 0) (by unfold vp_in; decide) dJx35411_next_0502b_64 ?_
  refine W.eq (g2 := F0 m 65 ls [.ref h3]) rfl ?_
  exact W.aret (v := .ref h3) hx hb hr (by first | exact Or.inl ⟨_, rfl⟩ | exact Or.inr ⟨_, rfl⟩) (Or.inr ⟨_, rfl⟩) (fun t9 ht9 hW9 => ⟨⟨(), h3, rfl, trivial, ⟨rfl, ⟨pq_mk (wc := [(h0, .inr (1, [.int 1, .int 0, .int 1, .ref h1])), (h1, .inr (0, [.int 1, .ref h2, .int 1])), (h2, .inl (kc0, 10, .inr (.inr (.inr (.inr (va_up (fun _ => none) 0 (some h3))))))), (h3, .inr (7, [.int 98, .int 120, .int 0, .int (-1), .int 0, .int (-1)]))]) (tc := [(kc0, .object "java/lang/Object")]) hP hD hK [0, 1, 2, 3] [0] rfl rfl rfl rfl ht9 hW9, by rw [ht9]; exact Nat.le_trans (Nat.add_le_add_left (Nat.le_of_ble_eq_true rfl) _) hG⟩⟩⟩, hS.F ht9⟩) hS.2.2 dJx35411_next_0502b_65

set_option maxHeartbeats 4000000 in
set_option maxRecDepth 100000 in
theorem k71_hasNext (l : Launch) (hl9 : l.stackTraces = false) (dC : Nat → ClassId) (dI : Nat → Nat → Nat) (z : XZ) (h0 h1 h2 h3 : Nat) (sz : Nat) (kc0 : ClassId) : Met l yJx35411_hasNext_aae02 (.code yJx35411_hasNext_aae02 cJx35411_hasNext_aae02 1 (some .boolean) :: wsL_law) ({ frames := 0, cells := 0, slots := 0, locals := 0 }) (va_Pc [.ref h0] (PC (dC, dI) [(h0, .inr (1, [.int 1, .int 0, .int 1, .ref h1])), (h1, .inr (0, [.int 1, .ref h2, .int 1])), (h2, .inl (kc0, 10, .inr (.inr (.inr (.inr (va_up (fun _ => none) 0 (some h3))))))), (h3, .inr (7, [.int 98, .int 120, .int 0, .int (-1), .int 0, .int (-1)]))] [(kc0, .object "java/lang/Object")] sz z)) (va_Qi (fun (r : Int32) (_ : Unit) => r = 0) (fun (_ : Unit) (t : State) => PG (dC, dI) [(h0, .inr (1, [.int 1, .int 0, .int 1, .ref h1])), (h1, .inr (0, [.int 1, .ref h2, .int 1])), (h2, .inl (kc0, 10, .inr (.inr (.inr (.inr (va_up (fun _ => none) 0 (some h3))))))), (h3, .inr (7, [.int 98, .int 120, .int 0, .int (-1), .int 0, .int (-1)]))] [(kc0, .object "java/lang/Object")] (va_A [(h0, .inr (1, [.int 1, .int 0, .int 1, .ref h1])), (h1, .inr (0, [.int 1, .ref h2, .int 1])), (h2, .inl (kc0, 10, .inr (.inr (.inr (.inr (va_up (fun _ => none) 0 (some h3))))))), (h3, .inr (7, [.int 98, .int 120, .int 0, .int (-1), .int 0, .int (-1)]))] sz) sz 0 t) (va_A [(h0, .inr (1, [.int 1, .int 0, .int 1, .ref h1])), (h1, .inr (0, [.int 1, .ref h2, .int 1])), (h2, .inl (kc0, 10, .inr (.inr (.inr (.inr (va_up (fun _ => none) 0 (some h3))))))), (h3, .inr (7, [.int 98, .int 120, .int 0, .int (-1), .int 0, .int (-1)]))] sz)) 0 0 (va_A [(h0, .inr (1, [.int 1, .int 0, .int 1, .ref h1])), (h1, .inr (0, [.int 1, .ref h2, .int 1])), (h2, .inl (kc0, 10, .inr (.inr (.inr (.inr (va_up (fun _ => none) 0 (some h3))))))), (h3, .inr (7, [.int 98, .int 120, .int 0, .int (-1), .int 0, .int (-1)]))] sz) := by
  refine Met.ofW (cc := cJx35411_hasNext_aae02) (maxL := 1) (ret := (some .boolean)) (by decide) rfl ?_
  intro p e s m args below meth c s₁ B hml hv
  obtain ⟨rfl, hsz, hP, hK, hD0, hX, hT⟩ := hv
  have hx := B.exec
  have hb := B.bytes
  have hr := B.returns
  have hts0 := atoms_spec (ws := .code yJx35411_hasNext_aae02 cJx35411_hasNext_aae02 1 (some .boolean) :: wsL_law) B.pre
  have hts := xTail hts0
  have hown : s.vm.findClass RJx35411 = some m.cls := findClass_of_methodNamed B.named
  have hlocks := B.notSynchronized
  subst hsz
  have hD := hD0.self (sz := s.heap.size)
  generalize hAe : va_A [(h0, .inr (1, [.int 1, .int 0, .int 1, .ref h1])), (h1, .inr (0, [.int 1, .ref h2, .int 1])), (h2, .inl (kc0, 10, .inr (.inr (.inr (.inr (va_up (fun _ => none) 0 (some h3))))))), (h3, .inr (7, [.int 98, .int 120, .int 0, .int (-1), .int 0, .int (-1)]))] s.heap.size = A at hD hX ⊢
  have hA : ∀ q : Nat, s.heap.size ≤ q → A q := fun q h => by rw [← hAe]; exact Or.inr h
  have hS : va_S A s.heap s.heap [] := va_S.rf
  have hG : s.heap.size + 0 ≤ s.heap.size := Nat.le_refl _
  have hl := lv_entry ([.ref h0]) (n := 1) (Nat.le_of_ble_eq_true rfl)
  rw [lg_entry_eq]
  generalize (lg_sl ([.ref h0]) ++ List.replicate (1 - (lg_sl ([.ref h0])).length) Slot.unset).toArray = ls at hl ⊢
  have hl : lv_has ls 1 [(0, .ref h0)] := hl
  refine lv_aload_n hx hb dJx35411_hasNext_aae02_0 rfl (lv_at hl 0 rfl) ?_
  refine va_get (D := (dC, dI)) (ci := 1) (v := .int 1) (C := RJx35411) (T := TJx35411) (N := 4) hx hb hts in_Jx35411 hown hK hP 0 rfl rfl 0 (by decide) (hts _ q_270) (fun _ h9 => h9) rfl dJx35411_hasNext_aae02_1 ?_
  refine lv_aload_n hx hb dJx35411_hasNext_aae02_4 rfl (lv_at hl 0 rfl) ?_
  refine va_get (D := (dC, dI)) (ci := 1) (v := .ref h1) (C := RJx35411) (T := TJx35411) (N := 4) hx hb hts in_Jx35411 hown hK hP 0 rfl rfl 3 (by decide) (hts _ q_258) (fun _ h9 => h9) rfl dJx35411_hasNext_aae02_5 ?_
  refine va_getN (D := (dC, dI)) (ci := 0) (v := .int 1) (C := RJx4a65c) (T := TJx4a65c) (N := 3) hx hb hts in_Jx4a65c hown hK hP 1 rfl rfl 2 (by decide) (va_Nw.use rfl hT.2.2.2.2.1) (fun _ h9 => h9) rfl dJx35411_hasNext_aae02_8 ?_
  refine lv_icmp_eq (tgt := 18) hx hb dJx35411_hasNext_aae02_11 (by decide) (fun _ => ?_) (fun cz => absurd (by decide) cz)
  refine lv_iconst (v := 0) hx hb dJx35411_hasNext_aae02_18 (by decide) ?_
  exact W.zret (v := 0) (ty := .boolean) hx hb hr rfl (fun t9 ht9 hW9 => ⟨⟨0, (), rfl, rfl, ⟨pq_mk (wc := [(h0, .inr (1, [.int 1, .int 0, .int 1, .ref h1])), (h1, .inr (0, [.int 1, .ref h2, .int 1])), (h2, .inl (kc0, 10, .inr (.inr (.inr (.inr (va_up (fun _ => none) 0 (some h3))))))), (h3, .inr (7, [.int 98, .int 120, .int 0, .int (-1), .int 0, .int (-1)]))]) (tc := [(kc0, .object "java/lang/Object")]) hP hD hK [0, 1, 2, 3] [0] rfl rfl rfl rfl ht9 hW9, by rw [ht9]; exact Nat.le_trans (Nat.add_le_add_left (Nat.le_of_ble_eq_true rfl) _) hG⟩⟩, hS.F ht9⟩) hS.2.2 dJx35411_hasNext_aae02_19

set_option maxHeartbeats 4000000 in
set_option maxRecDepth 100000 in
theorem k72_elementData (l : Launch) (hl9 : l.stackTraces = false) (dC : Nat → ClassId) (dI : Nat → Nat → Nat) (z : XZ) (h0 h1 h2 : Nat) (sz : Nat) (kc0 : ClassId) : Met l yJx4a65c_elementData_915e3 (.code yJx4a65c_elementData_915e3 cJx4a65c_elementData_915e3 2 (some (.object "java/lang/Object")) :: wsL_law) ({ frames := 0, cells := 0, slots := 0, locals := 0 }) (va_Pc [.ref h0, .int 0] (PC (dC, dI) [(h0, .inr (0, [.int 1, .ref h1, .int 1])), (h1, .inl (kc0, 10, .inr (.inr (.inr (.inr (va_up (fun _ => none) 0 (some h2))))))), (h2, .inr (7, [.int 98, .int 120, .int 0, .int (-1), .int 0, .int (-1)]))] [(kc0, .object "java/lang/Object")] sz z)) (va_Qr (fun (_ : Unit) => True) (fun (_ : Unit) (ra : Nat) (t : State) => ra = h2 ∧ PG (dC, dI) [(h0, .inr (0, [.int 1, .ref h1, .int 1])), (h1, .inl (kc0, 10, .inr (.inr (.inr (.inr (va_up (fun _ => none) 0 (some h2))))))), (h2, .inr (7, [.int 98, .int 120, .int 0, .int (-1), .int 0, .int (-1)]))] [(kc0, .object "java/lang/Object")] (va_A [(h0, .inr (0, [.int 1, .ref h1, .int 1])), (h1, .inl (kc0, 10, .inr (.inr (.inr (.inr (va_up (fun _ => none) 0 (some h2))))))), (h2, .inr (7, [.int 98, .int 120, .int 0, .int (-1), .int 0, .int (-1)]))] sz) sz 0 t) (va_A [(h0, .inr (0, [.int 1, .ref h1, .int 1])), (h1, .inl (kc0, 10, .inr (.inr (.inr (.inr (va_up (fun _ => none) 0 (some h2))))))), (h2, .inr (7, [.int 98, .int 120, .int 0, .int (-1), .int 0, .int (-1)]))] sz)) 0 0 (va_A [(h0, .inr (0, [.int 1, .ref h1, .int 1])), (h1, .inl (kc0, 10, .inr (.inr (.inr (.inr (va_up (fun _ => none) 0 (some h2))))))), (h2, .inr (7, [.int 98, .int 120, .int 0, .int (-1), .int 0, .int (-1)]))] sz) := by
  refine Met.ofW (cc := cJx4a65c_elementData_915e3) (maxL := 2) (ret := (some (.object "java/lang/Object"))) (by decide) rfl ?_
  intro p e s m args below meth c s₁ B hml hv
  obtain ⟨rfl, hsz, hP, hK, hD0, hX, hT⟩ := hv
  have hx := B.exec
  have hb := B.bytes
  have hr := B.returns
  have hts0 := atoms_spec (ws := .code yJx4a65c_elementData_915e3 cJx4a65c_elementData_915e3 2 (some (.object "java/lang/Object")) :: wsL_law) B.pre
  have hts := xTail hts0
  have hown : s.vm.findClass RJx4a65c = some m.cls := findClass_of_methodNamed B.named
  have hlocks := B.notSynchronized
  subst hsz
  have hD := hD0.self (sz := s.heap.size)
  generalize hAe : va_A [(h0, .inr (0, [.int 1, .ref h1, .int 1])), (h1, .inl (kc0, 10, .inr (.inr (.inr (.inr (va_up (fun _ => none) 0 (some h2))))))), (h2, .inr (7, [.int 98, .int 120, .int 0, .int (-1), .int 0, .int (-1)]))] s.heap.size = A at hD hX ⊢
  have hA : ∀ q : Nat, s.heap.size ≤ q → A q := fun q h => by rw [← hAe]; exact Or.inr h
  have hS : va_S A s.heap s.heap [] := va_S.rf
  have hG : s.heap.size + 0 ≤ s.heap.size := Nat.le_refl _
  have hl := lv_entry ([.ref h0, .int 0]) (n := 2) (Nat.le_of_ble_eq_true rfl)
  rw [lg_entry_eq]
  generalize (lg_sl ([.ref h0, .int 0]) ++ List.replicate (2 - (lg_sl ([.ref h0, .int 0])).length) Slot.unset).toArray = ls at hl ⊢
  have hl : lv_has ls 2 [(0, .ref h0), (1, .int 0)] := hl
  refine lv_aload_n hx hb dJx4a65c_elementData_915e3_0 rfl (lv_at hl 0 rfl) ?_
  refine va_get (D := (dC, dI)) (ci := 0) (v := .ref h1) (C := RJx4a65c) (T := TJx4a65c) (N := 3) hx hb hts in_Jx4a65c hown hK hP 0 rfl rfl 1 (by decide) (hts _ q_21) (fun _ h9 => h9) rfl dJx4a65c_elementData_915e3_1 ?_
  refine lv_iload_n hx hb dJx4a65c_elementData_915e3_4 rfl (lv_at hl 1 rfl) ?_
  refine va_aldq hx hb hK hP 1 0 rfl rfl (i := 0) (by unfold vp_in; decide) dJx4a65c_elementData_915e3_5 ?_
  refine W.eq (g2 := F0 m 6 ls [.ref h2]) rfl ?_
  exact W.aret (v := .ref h2) hx hb hr (by first | exact Or.inl ⟨_, rfl⟩ | exact Or.inr ⟨_, rfl⟩) (Or.inr ⟨_, rfl⟩) (fun t9 ht9 hW9 => ⟨⟨(), h2, rfl, trivial, ⟨rfl, ⟨pq_mk (wc := [(h0, .inr (0, [.int 1, .ref h1, .int 1])), (h1, .inl (kc0, 10, .inr (.inr (.inr (.inr (va_up (fun _ => none) 0 (some h2))))))), (h2, .inr (7, [.int 98, .int 120, .int 0, .int (-1), .int 0, .int (-1)]))]) (tc := [(kc0, .object "java/lang/Object")]) hP hD hK [0, 1, 2] [0] rfl rfl rfl rfl ht9 hW9, by rw [ht9]; exact Nat.le_trans (Nat.add_le_add_left (Nat.le_of_ble_eq_true rfl) _) hG⟩⟩⟩, hS.F ht9⟩) hS.2.2 dJx4a65c_elementData_915e3_6

set_option maxHeartbeats 4000000 in
set_option maxRecDepth 100000 in
theorem k73_get (l : Launch) (hl9 : l.stackTraces = false) (dC : Nat → ClassId) (dI : Nat → Nat → Nat) (z : XZ) (h0 h1 h2 : Nat) (sz : Nat) (kc0 : ClassId) : Met l yJx4a65c_get_915e3 (.code yJx4a65c_get_915e3 cJx4a65c_get_915e3 2 (some (.object "java/lang/Object")) :: wsL_law) ({ frames := 2, cells := 0, slots := 0, locals := 43 }) (va_Pc [.ref h0, .int 0] (PC (dC, dI) [(h0, .inr (0, [.int 1, .ref h1, .int 1])), (h1, .inl (kc0, 10, .inr (.inr (.inr (.inr (va_up (fun _ => none) 0 (some h2))))))), (h2, .inr (7, [.int 98, .int 120, .int 0, .int (-1), .int 0, .int (-1)]))] [(kc0, .object "java/lang/Object")] sz z)) (va_Qr (fun (_ : Unit) => True) (fun (_ : Unit) (ra : Nat) (t : State) => ra = h2 ∧ PG (dC, dI) [(h0, .inr (0, [.int 1, .ref h1, .int 1])), (h1, .inl (kc0, 10, .inr (.inr (.inr (.inr (va_up (fun _ => none) 0 (some h2))))))), (h2, .inr (7, [.int 98, .int 120, .int 0, .int (-1), .int 0, .int (-1)]))] [(kc0, .object "java/lang/Object")] (va_A [(h0, .inr (0, [.int 1, .ref h1, .int 1])), (h1, .inl (kc0, 10, .inr (.inr (.inr (.inr (va_up (fun _ => none) 0 (some h2))))))), (h2, .inr (7, [.int 98, .int 120, .int 0, .int (-1), .int 0, .int (-1)]))] sz) sz 0 t) (va_A [(h0, .inr (0, [.int 1, .ref h1, .int 1])), (h1, .inl (kc0, 10, .inr (.inr (.inr (.inr (va_up (fun _ => none) 0 (some h2))))))), (h2, .inr (7, [.int 98, .int 120, .int 0, .int (-1), .int 0, .int (-1)]))] sz)) 0 0 (va_A [(h0, .inr (0, [.int 1, .ref h1, .int 1])), (h1, .inl (kc0, 10, .inr (.inr (.inr (.inr (va_up (fun _ => none) 0 (some h2))))))), (h2, .inr (7, [.int 98, .int 120, .int 0, .int (-1), .int 0, .int (-1)]))] sz) := by
  refine Met.ofW (cc := cJx4a65c_get_915e3) (maxL := 2) (ret := (some (.object "java/lang/Object"))) (by decide) rfl ?_
  intro p e s m args below meth c s₁ B hml hv
  obtain ⟨rfl, hsz, hP, hK, hD0, hX, hT⟩ := hv
  have hx := B.exec
  have hb := B.bytes
  have hr := B.returns
  have hts0 := atoms_spec (ws := .code yJx4a65c_get_915e3 cJx4a65c_get_915e3 2 (some (.object "java/lang/Object")) :: wsL_law) B.pre
  have hts := xTail hts0
  have hown : s.vm.findClass RJx4a65c = some m.cls := findClass_of_methodNamed B.named
  have hlocks := B.notSynchronized
  subst hsz
  have hD := hD0.self (sz := s.heap.size)
  generalize hAe : va_A [(h0, .inr (0, [.int 1, .ref h1, .int 1])), (h1, .inl (kc0, 10, .inr (.inr (.inr (.inr (va_up (fun _ => none) 0 (some h2))))))), (h2, .inr (7, [.int 98, .int 120, .int 0, .int (-1), .int 0, .int (-1)]))] s.heap.size = A at hD hX ⊢
  have hA : ∀ q : Nat, s.heap.size ≤ q → A q := fun q h => by rw [← hAe]; exact Or.inr h
  have hS : va_S A s.heap s.heap [] := va_S.rf
  have hG : s.heap.size + 0 ≤ s.heap.size := Nat.le_refl _
  have hl := lv_entry ([.ref h0, .int 0]) (n := 2) (Nat.le_of_ble_eq_true rfl)
  rw [lg_entry_eq]
  generalize (lg_sl ([.ref h0, .int 0]) ++ List.replicate (2 - (lg_sl ([.ref h0, .int 0])).length) Slot.unset).toArray = ls at hl ⊢
  have hl : lv_has ls 2 [(0, .ref h0), (1, .int 0)] := hl
  refine lv_iload_n hx hb dJx4a65c_get_915e3_0 rfl (lv_at hl 1 rfl) ?_
  refine lv_aload_n hx hb dJx4a65c_get_915e3_1 rfl (lv_at hl 0 rfl) ?_
  refine va_get (D := (dC, dI)) (ci := 0) (v := .int 1) (C := RJx4a65c) (T := TJx4a65c) (N := 3) hx hb hts in_Jx4a65c hown hK hP 0 rfl rfl 2 (by decide) (hts _ q_60) (fun _ h9 => h9) rfl dJx4a65c_get_915e3_2 ?_
  have hF1 := va_free (wc := []) hD hS hA [] rfl
  refine va_calli (va_runS (As := [.int 0, .int 1]) (rest := []) ⟨hx, hb, hml, hown, hts⟩ (k21_checkIndex l hl9 dC dI z s.heap.size) (va_cwS 2 hts (gS q_131 q_132 q_133 q_130) rfl rfl rfl (by decide +kernel) ⟨Nat.le_of_ble_eq_true rfl, Nat.le_of_ble_eq_true rfl⟩) ⟨pc_blind, fun U hU hW => ⟨rfl, pc_mk hP hD hK hS hX hT [] [] rfl rfl rfl rfl hF1 hU hW⟩⟩ rfl rfl hl.1 rfl (lv_room (Nat.le_of_ble_eq_true rfl)) dJx4a65c_get_915e3_5 ⟨(Nat.le_of_ble_eq_true rfl), (Nat.le_of_ble_eq_true rfl)⟩) hS (fun q9 _ h9 => hF1 q9 h9) hF1 (fun r4 u3 t3 H3 L3 ht3 hvm3 hw3 hB3 hz3 hk3 hS => ?_)
  obtain ⟨hP, hD, hK⟩ := pq_join (wr := [(h0, .inr (0, [.int 1, .ref h1, .int 1])), (h1, .inl (kc0, 10, .inr (.inr (.inr (.inr (va_up (fun _ => none) 0 (some h2))))))), (h2, .inr (7, [.int 98, .int 120, .int 0, .int (-1), .int 0, .int (-1)]))]) (tr := [(kc0, .object "java/lang/Object")]) (wz := [(h0, .inr (0, [.int 1, .ref h1, .int 1])), (h1, .inl (kc0, 10, .inr (.inr (.inr (.inr (va_up (fun _ => none) 0 (some h2))))))), (h2, .inr (7, [.int 98, .int 120, .int 0, .int (-1), .int 0, .int (-1)]))]) (tz := [(kc0, .object "java/lang/Object")]) hP hD hK [] [0, 1, 2] [0] rfl rfl (by decide) (by decide) rfl hk3 hF1 hB3.1 ht3 hvm3 rfl rfl
  have hG : s.heap.size + 0 ≤ H3.size := Nat.le_trans hG hz3
  refine W.eq (g2 := F0 m 8 ls [.int 0]) (by rw [hw3]) ?_
  refine lv_pop hx hb dJx4a65c_get_915e3_8 rfl ?_
  refine lv_aload_n hx hb dJx4a65c_get_915e3_9 rfl (lv_at hl 0 rfl) ?_
  refine lv_iload_n hx hb dJx4a65c_get_915e3_10 rfl (lv_at hl 1 rfl) ?_
  have hF5 := va_free (wc := [(h0, .inr (0, [.int 1, .ref h1, .int 1])), (h1, .inl (kc0, 10, .inr (.inr (.inr (.inr (va_up (fun _ => none) 0 (some h2))))))), (h2, .inr (7, [.int 98, .int 120, .int 0, .int (-1), .int 0, .int (-1)]))]) hD hS hA [0, 1, 2] rfl
  refine va_callr (va_runV (As := [.int 0]) (rest := []) ⟨hx, hb, hml, hown, hts⟩ (k72_elementData l hl9 dC dI z h0 h1 h2 H3.size kc0) (cwV 1 hts (gV q_135 q_136 q_137 q_9 q_134) rfl rfl rfl (by decide +kernel) ⟨Nat.le_of_ble_eq_true rfl, Nat.le_of_ble_eq_true rfl⟩) ⟨pc_blind, va_recv hK hP (ci := 0) (q0 := 0) rfl rfl, fun U hU hW => ⟨rfl, pc_mk hP hD hK hS hX hT [0, 1, 2] [0] rfl rfl rfl rfl hF5 hU hW⟩⟩ rfl rfl hl.1 rfl (lv_room (Nat.le_of_ble_eq_true rfl)) dJx4a65c_get_915e3_11 ⟨(Nat.le_of_ble_eq_true rfl), (Nat.le_of_ble_eq_true rfl)⟩) hS (fun q9 _ h9 => hF5 q9 h9) hF5 (fun u7 r8 t7 H7 L7 ht7 hvm7 hw7 hB7 hz7 hk7 hS => ?_)
  obtain ⟨hr7, hB7⟩ := hB7
  obtain ⟨hP, hD, hK⟩ := pq_join (wr := []) (tr := []) (wz := [(h0, .inr (0, [.int 1, .ref h1, .int 1])), (h1, .inl (kc0, 10, .inr (.inr (.inr (.inr (va_up (fun _ => none) 0 (some h2))))))), (h2, .inr (7, [.int 98, .int 120, .int 0, .int (-1), .int 0, .int (-1)]))]) (tz := [(kc0, .object "java/lang/Object")]) hP hD hK [0, 1, 2] [] [] rfl rfl (by decide) (by decide) rfl hk7 hF5 hB7.1 ht7 hvm7 rfl rfl
  have hG : s.heap.size + 0 ≤ H7.size := Nat.le_trans hG hz7
  refine W.eq (g2 := F0 m 14 ls [.ref h2]) (by rw [hr7]) ?_
  exact W.aret (v := .ref h2) hx hb hr (by first | exact Or.inl ⟨_, rfl⟩ | exact Or.inr ⟨_, rfl⟩) (Or.inr ⟨_, rfl⟩) (fun t9 ht9 hW9 => ⟨⟨(), h2, rfl, trivial, ⟨rfl, ⟨pq_mk (wc := [(h0, .inr (0, [.int 1, .ref h1, .int 1])), (h1, .inl (kc0, 10, .inr (.inr (.inr (.inr (va_up (fun _ => none) 0 (some h2))))))), (h2, .inr (7, [.int 98, .int 120, .int 0, .int (-1), .int 0, .int (-1)]))]) (tc := [(kc0, .object "java/lang/Object")]) hP hD hK [0, 1, 2] [0] rfl rfl rfl rfl ht9 hW9, by rw [ht9]; exact Nat.le_trans (Nat.add_le_add_left (Nat.le_of_ble_eq_true rfl) _) hG⟩⟩⟩, hS.F ht9⟩) hS.2.2 dJx4a65c_get_915e3_14

set_option maxHeartbeats 4000000 in
set_option maxRecDepth 100000 in
theorem k74_valuesNow (l : Launch) (hl9 : l.stackTraces = false) (dC : Nat → ClassId) (dI : Nat → Nat → Nat) (z : XZ) (h0 h1 h2 h3 h4 h5 h6 h7 : Nat) (sz : Nat) (kc0 kc1 : ClassId) : Met l yX9_valuesNow (.code yX9_valuesNow cX9_valuesNow 3 (some (.array .char)) :: wsL_law) ({ frames := 3, cells := 1, slots := 40, locals := 64 }) (va_Pc [.ref h0] (PC (dC, dI) [(h0, .inr (8, [.int 0, .ref h1, .ref h2, .ref h3, .ref h4, .int 0])), (h1, .inr (0, [.int 1, .ref h5, .int 1])), (h2, .inr (0, [.int 0, .ref z.1, .int 0])), (h3, .inr (0, [.int 0, .ref z.1, .int 0])), (h4, .inr (0, [.int 2, .ref h6, .int 1])), (h5, .inl (kc0, 10, .inr (.inr (.inr (.inr (va_up (fun _ => none) 0 (some h7))))))), (h6, .inl (kc1, 10, .inr (.inr (.inr (.inr (va_up (fun _ => none) 0 (some (z.2.2.1 128)))))))), (h7, .inr (7, [.int 98, .int 120, .int 0, .int (-1), .int 0, .int (-1)]))] [(kc0, .object "java/lang/Object"), (kc1, .object "java/lang/Object")] sz z)) (va_Qr (fun (_ : Unit) => True) (fun (_ : Unit) (ra : Nat) (t : State) => ∃ (n0 : Nat), ∃ (m0 : ClassId), ra = n0 ∧ PG (dC, dI) [(h0, .inr (8, [.int 0, .ref h1, .ref h2, .ref h3, .ref h4, .int 0])), (h1, .inr (0, [.int 1, .ref h5, .int 1])), (h2, .inr (0, [.int 0, .ref z.1, .int 0])), (h3, .inr (0, [.int 0, .ref z.1, .int 0])), (h4, .inr (0, [.int 2, .ref h6, .int 1])), (h5, .inl (kc0, 10, .inr (.inr (.inr (.inr (va_up (fun _ => none) 0 (some h7))))))), (h6, .inl (kc1, 10, .inr (.inr (.inr (.inr (va_up (fun _ => none) 0 (some (z.2.2.1 128)))))))), (h7, .inr (7, [.int 98, .int 120, .int 0, .int (-1), .int 0, .int (-1)])), (n0, .inl (m0, 40, .inl (upd (fun _ => 0) 0 120)))] [(kc0, .object "java/lang/Object"), (kc1, .object "java/lang/Object"), (m0, .char)] (va_A [(h0, .inr (8, [.int 0, .ref h1, .ref h2, .ref h3, .ref h4, .int 0])), (h1, .inr (0, [.int 1, .ref h5, .int 1])), (h2, .inr (0, [.int 0, .ref z.1, .int 0])), (h3, .inr (0, [.int 0, .ref z.1, .int 0])), (h4, .inr (0, [.int 2, .ref h6, .int 1])), (h5, .inl (kc0, 10, .inr (.inr (.inr (.inr (va_up (fun _ => none) 0 (some h7))))))), (h6, .inl (kc1, 10, .inr (.inr (.inr (.inr (va_up (fun _ => none) 0 (some (z.2.2.1 128)))))))), (h7, .inr (7, [.int 98, .int 120, .int 0, .int (-1), .int 0, .int (-1)]))] sz) sz 1 t) (va_A [(h0, .inr (8, [.int 0, .ref h1, .ref h2, .ref h3, .ref h4, .int 0])), (h1, .inr (0, [.int 1, .ref h5, .int 1])), (h2, .inr (0, [.int 0, .ref z.1, .int 0])), (h3, .inr (0, [.int 0, .ref z.1, .int 0])), (h4, .inr (0, [.int 2, .ref h6, .int 1])), (h5, .inl (kc0, 10, .inr (.inr (.inr (.inr (va_up (fun _ => none) 0 (some h7))))))), (h6, .inl (kc1, 10, .inr (.inr (.inr (.inr (va_up (fun _ => none) 0 (some (z.2.2.1 128)))))))), (h7, .inr (7, [.int 98, .int 120, .int 0, .int (-1), .int 0, .int (-1)]))] sz)) 1 40 (va_A [(h0, .inr (8, [.int 0, .ref h1, .ref h2, .ref h3, .ref h4, .int 0])), (h1, .inr (0, [.int 1, .ref h5, .int 1])), (h2, .inr (0, [.int 0, .ref z.1, .int 0])), (h3, .inr (0, [.int 0, .ref z.1, .int 0])), (h4, .inr (0, [.int 2, .ref h6, .int 1])), (h5, .inl (kc0, 10, .inr (.inr (.inr (.inr (va_up (fun _ => none) 0 (some h7))))))), (h6, .inl (kc1, 10, .inr (.inr (.inr (.inr (va_up (fun _ => none) 0 (some (z.2.2.1 128)))))))), (h7, .inr (7, [.int 98, .int 120, .int 0, .int (-1), .int 0, .int (-1)]))] sz) := by
  refine Met.ofW (cc := cX9_valuesNow) (maxL := 3) (ret := (some (.array .char))) (by decide) rfl ?_
  intro p e s m args below meth c s₁ B hml hv
  obtain ⟨rfl, hsz, hP, hK, hD0, hX, hT⟩ := hv
  have hx := B.exec
  have hb := B.bytes
  have hr := B.returns
  have hts0 := atoms_spec (ws := .code yX9_valuesNow cX9_valuesNow 3 (some (.array .char)) :: wsL_law) B.pre
  have hts := xTail hts0
  have hown : s.vm.findClass RX9 = some m.cls := findClass_of_methodNamed B.named
  have hlocks := B.notSynchronized
  subst hsz
  have hD := hD0.self (sz := s.heap.size)
  generalize hAe : va_A [(h0, .inr (8, [.int 0, .ref h1, .ref h2, .ref h3, .ref h4, .int 0])), (h1, .inr (0, [.int 1, .ref h5, .int 1])), (h2, .inr (0, [.int 0, .ref z.1, .int 0])), (h3, .inr (0, [.int 0, .ref z.1, .int 0])), (h4, .inr (0, [.int 2, .ref h6, .int 1])), (h5, .inl (kc0, 10, .inr (.inr (.inr (.inr (va_up (fun _ => none) 0 (some h7))))))), (h6, .inl (kc1, 10, .inr (.inr (.inr (.inr (va_up (fun _ => none) 0 (some (z.2.2.1 128)))))))), (h7, .inr (7, [.int 98, .int 120, .int 0, .int (-1), .int 0, .int (-1)]))] s.heap.size = A at hD hX ⊢
  have hA : ∀ q : Nat, s.heap.size ≤ q → A q := fun q h => by rw [← hAe]; exact Or.inr h
  have hS : va_S A s.heap s.heap [] := va_S.rf
  have hG : s.heap.size + 0 ≤ s.heap.size := Nat.le_refl _
  have hl := lv_entry ([.ref h0]) (n := 3) (Nat.le_of_ble_eq_true rfl)
  rw [lg_entry_eq]
  generalize (lg_sl ([.ref h0]) ++ List.replicate (3 - (lg_sl ([.ref h0])).length) Slot.unset).toArray = ls at hl ⊢
  have hl : lv_has ls 3 [(0, .ref h0)] := hl
  refine lv_bipush (v := 40) hx hb dX9_valuesNow_0 (by decide) ?_
  refine xa_newa (atype := .char) hx hb (hts _ q_297) rfl hK hP hD hS hA (n := 40) (N' := 40) (a0 := (40, .inl (fun _ => 0))) (fun _ => rfl) (by decide) (by decide) (Nat.le_of_ble_eq_true rfl) (Nat.le_of_ble_eq_true rfl) (Nat.le_of_ble_eq_true rfl) dX9_valuesNow_2 (fun a1 k2 H3 hg8 hK hP hD hS => ?_)
  have hG : s.heap.size + 1 ≤ H3.size := by rw [hg8]; exact Nat.succ_le_succ hG
  have hK : va_K (dC, dI) xCl [(kc0, .object "java/lang/Object"), (kc1, .object "java/lang/Object"), (k2, .char)] s := hK
  have hP : va_P (dC, dI) xCl [(h0, .inr (8, [.int 0, .ref h1, .ref h2, .ref h3, .ref h4, .int 0])), (h1, .inr (0, [.int 1, .ref h5, .int 1])), (h2, .inr (0, [.int 0, .ref z.1, .int 0])), (h3, .inr (0, [.int 0, .ref z.1, .int 0])), (h4, .inr (0, [.int 2, .ref h6, .int 1])), (h5, .inl (kc0, 10, .inr (.inr (.inr (.inr (va_up (fun _ => none) 0 (some h7))))))), (h6, .inl (kc1, 10, .inr (.inr (.inr (.inr (va_up (fun _ => none) 0 (some (z.2.2.1 128)))))))), (h7, .inr (7, [.int 98, .int 120, .int 0, .int (-1), .int 0, .int (-1)])), (a1, .inl (k2, 40, .inl (fun _ => 0)))] H3 := hP
  have hD : va_D A [(h0, .inr (8, [.int 0, .ref h1, .ref h2, .ref h3, .ref h4, .int 0])), (h1, .inr (0, [.int 1, .ref h5, .int 1])), (h2, .inr (0, [.int 0, .ref z.1, .int 0])), (h3, .inr (0, [.int 0, .ref z.1, .int 0])), (h4, .inr (0, [.int 2, .ref h6, .int 1])), (h5, .inl (kc0, 10, .inr (.inr (.inr (.inr (va_up (fun _ => none) 0 (some h7))))))), (h6, .inl (kc1, 10, .inr (.inr (.inr (.inr (va_up (fun _ => none) 0 (some (z.2.2.1 128)))))))), (h7, .inr (7, [.int 98, .int 120, .int 0, .int (-1), .int 0, .int (-1)])), (a1, .inl (k2, 40, .inl (fun _ => 0)))] := hD
  refine W.widen (k := 1) (n := 40) (by decide) (by decide) ?_
  refine lv_astore_n (lv' := [(1, .ref a1), (0, .ref h0)]) hx hb dX9_valuesNow_4 rfl hl (by decide) rfl (fun ls hl => ?_)
  refine lv_iconst (v := 0) hx hb dX9_valuesNow_5 (by decide) ?_
  refine lv_istore_n (lv' := [(2, .int 0), (1, .ref a1), (0, .ref h0)]) hx hb dX9_valuesNow_6 rfl hl (by decide) rfl (fun ls hl => ?_)
  refine lv_iload_n hx hb dX9_valuesNow_7 rfl (lv_at hl 0 rfl) ?_
  refine lv_aload_n hx hb dX9_valuesNow_8 rfl (lv_at hl 2 rfl) ?_
  refine va_get (D := (dC, dI)) (ci := 8) (v := .ref h1) (C := RX9) (T := TX9) (N := 6) hx hb hts in_X9 hown hK hP 0 rfl rfl 1 (by decide) (hts _ q_55) (fun _ h9 => h9) rfl dX9_valuesNow_9 ?_
  have hF4 := va_free (wc := [(h1, .inr (0, [.int 1, .ref h5, .int 1])), (h5, .inl (kc0, 10, .inr (.inr (.inr (.inr (va_up (fun _ => none) 0 (some h7))))))), (h7, .inr (7, [.int 98, .int 120, .int 0, .int (-1), .int 0, .int (-1)]))]) hD hS hA [1, 5, 7] rfl
  refine va_calli (va_runV (As := []) (rest := [.int 0]) ⟨hx, hb, hml, hown, hts⟩ (k56_size l hl9 dC dI z h1 h5 h7 H3.size 1 1 98 120 0 (-1) 0 (-1) kc0) (cwV 0 hts (gV q_230 q_63 q_64 q_9 q_61) rfl rfl rfl (by decide +kernel) ⟨Nat.le_of_ble_eq_true rfl, Nat.le_of_ble_eq_true rfl⟩) ⟨pc_blind, va_recv hK hP (ci := 0) (q0 := 1) rfl rfl, fun U hU hW => ⟨rfl, pc_mk hP hD hK hS hX hT [1, 5, 7] [0] rfl rfl rfl rfl hF4 hU hW⟩⟩ rfl rfl hl.1 rfl (lv_room (Nat.le_of_ble_eq_true rfl)) dX9_valuesNow_12 ⟨(Nat.le_of_ble_eq_true rfl), (Nat.le_of_ble_eq_true rfl)⟩) hS (fun q9 _ h9 => hF4 q9 h9) hF4 (fun r7 u6 t6 H6 L6 ht6 hvm6 hw6 hB6 hz6 hk6 hS => ?_)
  obtain ⟨hP, hD, hK⟩ := pq_join (wr := [(h0, .inr (8, [.int 0, .ref h1, .ref h2, .ref h3, .ref h4, .int 0])), (h2, .inr (0, [.int 0, .ref z.1, .int 0])), (h3, .inr (0, [.int 0, .ref z.1, .int 0])), (h4, .inr (0, [.int 2, .ref h6, .int 1])), (h6, .inl (kc1, 10, .inr (.inr (.inr (.inr (va_up (fun _ => none) 0 (some (z.2.2.1 128)))))))), (a1, .inl (k2, 40, .inl (fun _ => 0)))]) (tr := [(kc1, .object "java/lang/Object"), (k2, .char)]) (wz := [(h0, .inr (8, [.int 0, .ref h1, .ref h2, .ref h3, .ref h4, .int 0])), (h2, .inr (0, [.int 0, .ref z.1, .int 0])), (h3, .inr (0, [.int 0, .ref z.1, .int 0])), (h4, .inr (0, [.int 2, .ref h6, .int 1])), (h6, .inl (kc1, 10, .inr (.inr (.inr (.inr (va_up (fun _ => none) 0 (some (z.2.2.1 128)))))))), (a1, .inl (k2, 40, .inl (fun _ => 0))), (h1, .inr (0, [.int 1, .ref h5, .int 1])), (h5, .inl (kc0, 10, .inr (.inr (.inr (.inr (va_up (fun _ => none) 0 (some h7))))))), (h7, .inr (7, [.int 98, .int 120, .int 0, .int (-1), .int 0, .int (-1)]))]) (tz := [(kc1, .object "java/lang/Object"), (k2, .char), (kc0, .object "java/lang/Object")]) hP hD hK [1, 5, 7] [0, 2, 3, 4, 6, 8] [1, 2] rfl rfl (by decide) (by decide) rfl hk6 hF4 hB6.1 ht6 hvm6 rfl rfl
  have hG : s.heap.size + 1 ≤ H6.size := Nat.le_trans hG hz6
  refine W.eq (g2 := F0 m 15 ls [.int 1, .int 0]) (by rw [hw6]) ?_
  refine lv_icmp_ge (tgt := 41) hx hb dX9_valuesNow_15 (by decide) (fun cz => absurd cz (by decide)) (fun _ => ?_)
  refine lv_aload_n hx hb dX9_valuesNow_18 rfl (lv_at hl 1 rfl) ?_
  refine lv_iload_n hx hb dX9_valuesNow_19 rfl (lv_at hl 0 rfl) ?_
  refine lv_aload_n hx hb dX9_valuesNow_20 rfl (lv_at hl 2 rfl) ?_
  refine va_get (D := (dC, dI)) (ci := 8) (v := .ref h1) (C := RX9) (T := TX9) (N := 6) hx hb hts in_X9 hown hK hP 0 rfl rfl 1 (by decide) (hts _ q_55) (fun _ h9 => h9) rfl dX9_valuesNow_21 ?_
  refine lv_iload_n hx hb dX9_valuesNow_24 rfl (lv_at hl 0 rfl) ?_
  have hF8 := va_free (wc := [(h1, .inr (0, [.int 1, .ref h5, .int 1])), (h5, .inl (kc0, 10, .inr (.inr (.inr (.inr (va_up (fun _ => none) 0 (some h7))))))), (h7, .inr (7, [.int 98, .int 120, .int 0, .int (-1), .int 0, .int (-1)]))]) hD hS hA [6, 7, 8] rfl
  refine va_callr (va_runV (As := [.int 0]) (rest := [.int 0, .ref a1]) ⟨hx, hb, hml, hown, hts⟩ (k73_get l hl9 dC dI z h1 h5 h7 H6.size kc0) (cwV 1 hts (gV q_298 q_140 q_141 q_9 q_138) rfl rfl rfl (by decide +kernel) ⟨Nat.le_of_ble_eq_true rfl, Nat.le_of_ble_eq_true rfl⟩) ⟨pc_blind, va_recv hK hP (ci := 0) (q0 := 6) rfl rfl, fun U hU hW => ⟨rfl, pc_mk hP hD hK hS hX hT [6, 7, 8] [2] rfl rfl rfl rfl hF8 hU hW⟩⟩ rfl rfl hl.1 rfl (lv_room (Nat.le_of_ble_eq_true rfl)) dX9_valuesNow_25 ⟨(Nat.le_of_ble_eq_true rfl), (Nat.le_of_ble_eq_true rfl)⟩) hS (fun q9 _ h9 => hF8 q9 h9) hF8 (fun u10 r11 t10 H10 L10 ht10 hvm10 hw10 hB10 hz10 hk10 hS => ?_)
  obtain ⟨hr10, hB10⟩ := hB10
  obtain ⟨hP, hD, hK⟩ := pq_join (wr := [(h0, .inr (8, [.int 0, .ref h1, .ref h2, .ref h3, .ref h4, .int 0])), (h2, .inr (0, [.int 0, .ref z.1, .int 0])), (h3, .inr (0, [.int 0, .ref z.1, .int 0])), (h4, .inr (0, [.int 2, .ref h6, .int 1])), (h6, .inl (kc1, 10, .inr (.inr (.inr (.inr (va_up (fun _ => none) 0 (some (z.2.2.1 128)))))))), (a1, .inl (k2, 40, .inl (fun _ => 0)))]) (tr := [(kc1, .object "java/lang/Object"), (k2, .char)]) (wz := [(h0, .inr (8, [.int 0, .ref h1, .ref h2, .ref h3, .ref h4, .int 0])), (h2, .inr (0, [.int 0, .ref z.1, .int 0])), (h3, .inr (0, [.int 0, .ref z.1, .int 0])), (h4, .inr (0, [.int 2, .ref h6, .int 1])), (h6, .inl (kc1, 10, .inr (.inr (.inr (.inr (va_up (fun _ => none) 0 (some (z.2.2.1 128)))))))), (a1, .inl (k2, 40, .inl (fun _ => 0))), (h1, .inr (0, [.int 1, .ref h5, .int 1])), (h5, .inl (kc0, 10, .inr (.inr (.inr (.inr (va_up (fun _ => none) 0 (some h7))))))), (h7, .inr (7, [.int 98, .int 120, .int 0, .int (-1), .int 0, .int (-1)]))]) (tz := [(kc1, .object "java/lang/Object"), (k2, .char), (kc0, .object "java/lang/Object")]) hP hD hK [6, 7, 8] [0, 1, 2, 3, 4, 5] [0, 1] rfl rfl (by decide) (by decide) rfl hk10 hF8 hB10.1 ht10 hvm10 rfl rfl
  have hG : s.heap.size + 1 ≤ H10.size := Nat.le_trans hG hz10
  refine W.eq (g2 := F0 m 28 ls [.ref h7, .int 0, .ref a1]) (by rw [hr10]) ?_
  refine va_castE (nm := RX8) hx hb hown (hts _ q_236) (va_recv hK hP (ci := 7) (q0 := 8) rfl rfl) dX9_valuesNow_28 ?_
  refine va_get (D := (dC, dI)) (ci := 7) (v := .int 120) (C := RX8) (T := TX8) (N := 6) hx hb hts in_X8 hown hK hP 8 rfl rfl 1 (by decide) (hts _ q_294) (fun _ h9 => h9) rfl dX9_valuesNow_31 ?_
  refine va_cast hx hb hK hP hD (va_Sre hS) 5 1 rfl rfl (i := 0) (by unfold vp_in; decide) dX9_valuesNow_34 (fun H12 _ hP hD hS' => ?_)
  have hG : s.heap.size + 1 ≤ H12.size := Nat.le_trans hG hS'.1
  have hS := va_Str hS hS'
  have hP : va_P (dC, dI) xCl [(h0, .inr (8, [.int 0, .ref h1, .ref h2, .ref h3, .ref h4, .int 0])), (h2, .inr (0, [.int 0, .ref z.1, .int 0])), (h3, .inr (0, [.int 0, .ref z.1, .int 0])), (h4, .inr (0, [.int 2, .ref h6, .int 1])), (h6, .inl (kc1, 10, .inr (.inr (.inr (.inr (va_up (fun _ => none) 0 (some (z.2.2.1 128)))))))), (a1, .inl (k2, 40, .inl (upd (fun _ => 0) 0 120))), (h1, .inr (0, [.int 1, .ref h5, .int 1])), (h5, .inl (kc0, 10, .inr (.inr (.inr (.inr (va_up (fun _ => none) 0 (some h7))))))), (h7, .inr (7, [.int 98, .int 120, .int 0, .int (-1), .int 0, .int (-1)]))] H12 := hP
  have hD : va_D A [(h0, .inr (8, [.int 0, .ref h1, .ref h2, .ref h3, .ref h4, .int 0])), (h2, .inr (0, [.int 0, .ref z.1, .int 0])), (h3, .inr (0, [.int 0, .ref z.1, .int 0])), (h4, .inr (0, [.int 2, .ref h6, .int 1])), (h6, .inl (kc1, 10, .inr (.inr (.inr (.inr (va_up (fun _ => none) 0 (some (z.2.2.1 128)))))))), (a1, .inl (k2, 40, .inl (upd (fun _ => 0) 0 120))), (h1, .inr (0, [.int 1, .ref h5, .int 1])), (h5, .inl (kc0, 10, .inr (.inr (.inr (.inr (va_up (fun _ => none) 0 (some h7))))))), (h7, .inr (7, [.int 98, .int 120, .int 0, .int (-1), .int 0, .int (-1)]))] := hD
  refine lv_iinc (v := 1) (lv' := [(2, .int 1), (1, .ref a1), (0, .ref h0)]) hx hb dX9_valuesNow_35 hl (k := 0) rfl (by decide) (by decide) rfl (fun ls hl => ?_)
  refine lv_goto (tgt := 7) hx hb dX9_valuesNow_38 (by decide) ?_
  refine lv_iload_n hx hb dX9_valuesNow_7 rfl (lv_at hl 0 rfl) ?_
  refine lv_aload_n hx hb dX9_valuesNow_8 rfl (lv_at hl 2 rfl) ?_
  refine va_get (D := (dC, dI)) (ci := 8) (v := .ref h1) (C := RX9) (T := TX9) (N := 6) hx hb hts in_X9 hown hK hP 0 rfl rfl 1 (by decide) (hts _ q_55) (fun _ h9 => h9) rfl dX9_valuesNow_9 ?_
  have hF13 := va_free (wc := [(h1, .inr (0, [.int 1, .ref h5, .int 1])), (h5, .inl (kc0, 10, .inr (.inr (.inr (.inr (va_up (fun _ => none) 0 (some h7))))))), (h7, .inr (7, [.int 98, .int 120, .int 0, .int (-1), .int 0, .int (-1)]))]) hD hS hA [6, 7, 8] rfl
  refine va_calli (va_runV (As := []) (rest := [.int 1]) ⟨hx, hb, hml, hown, hts⟩ (k56_size l hl9 dC dI z h1 h5 h7 H12.size 1 1 98 120 0 (-1) 0 (-1) kc0) (cwV 0 hts (gV q_230 q_63 q_64 q_9 q_61) rfl rfl rfl (by decide +kernel) ⟨Nat.le_of_ble_eq_true rfl, Nat.le_of_ble_eq_true rfl⟩) ⟨pc_blind, va_recv hK hP (ci := 0) (q0 := 6) rfl rfl, fun U hU hW => ⟨rfl, pc_mk hP hD hK hS hX hT [6, 7, 8] [2] rfl rfl rfl rfl hF13 hU hW⟩⟩ rfl rfl hl.1 rfl (lv_room (Nat.le_of_ble_eq_true rfl)) dX9_valuesNow_12 ⟨(Nat.le_of_ble_eq_true rfl), (Nat.le_of_ble_eq_true rfl)⟩) hS (fun q9 _ h9 => hF13 q9 h9) hF13 (fun r16 u15 t15 H15 L15 ht15 hvm15 hw15 hB15 hz15 hk15 hS => ?_)
  obtain ⟨hP, hD, hK⟩ := pq_join (wr := [(h0, .inr (8, [.int 0, .ref h1, .ref h2, .ref h3, .ref h4, .int 0])), (h2, .inr (0, [.int 0, .ref z.1, .int 0])), (h3, .inr (0, [.int 0, .ref z.1, .int 0])), (h4, .inr (0, [.int 2, .ref h6, .int 1])), (h6, .inl (kc1, 10, .inr (.inr (.inr (.inr (va_up (fun _ => none) 0 (some (z.2.2.1 128)))))))), (a1, .inl (k2, 40, .inl (upd (fun _ => 0) 0 120)))]) (tr := [(kc1, .object "java/lang/Object"), (k2, .char)]) (wz := [(h0, .inr (8, [.int 0, .ref h1, .ref h2, .ref h3, .ref h4, .int 0])), (h2, .inr (0, [.int 0, .ref z.1, .int 0])), (h3, .inr (0, [.int 0, .ref z.1, .int 0])), (h4, .inr (0, [.int 2, .ref h6, .int 1])), (h6, .inl (kc1, 10, .inr (.inr (.inr (.inr (va_up (fun _ => none) 0 (some (z.2.2.1 128)))))))), (a1, .inl (k2, 40, .inl (upd (fun _ => 0) 0 120))), (h1, .inr (0, [.int 1, .ref h5, .int 1])), (h5, .inl (kc0, 10, .inr (.inr (.inr (.inr (va_up (fun _ => none) 0 (some h7))))))), (h7, .inr (7, [.int 98, .int 120, .int 0, .int (-1), .int 0, .int (-1)]))]) (tz := [(kc1, .object "java/lang/Object"), (k2, .char), (kc0, .object "java/lang/Object")]) hP hD hK [6, 7, 8] [0, 1, 2, 3, 4, 5] [0, 1] rfl rfl (by decide) (by decide) rfl hk15 hF13 hB15.1 ht15 hvm15 rfl rfl
  have hG : s.heap.size + 1 ≤ H15.size := Nat.le_trans hG hz15
  refine W.eq (g2 := F0 m 15 ls [.int 1, .int 1]) (by rw [hw15]) ?_
  refine lv_icmp_ge (tgt := 41) hx hb dX9_valuesNow_15 (by decide) (fun _ => ?_) (fun cz => absurd (by decide) cz)
  refine lv_aload_n hx hb dX9_valuesNow_41 rfl (lv_at hl 1 rfl) ?_
  exact W.aret (v := .ref a1) hx hb hr (by first | exact Or.inl ⟨_, rfl⟩ | exact Or.inr ⟨_, rfl⟩) (Or.inr ⟨_, rfl⟩) (fun t9 ht9 hW9 => ⟨⟨(), a1, rfl, trivial, ⟨a1, k2, rfl, ⟨pq_mk (wc := [(h0, .inr (8, [.int 0, .ref h1, .ref h2, .ref h3, .ref h4, .int 0])), (h1, .inr (0, [.int 1, .ref h5, .int 1])), (h2, .inr (0, [.int 0, .ref z.1, .int 0])), (h3, .inr (0, [.int 0, .ref z.1, .int 0])), (h4, .inr (0, [.int 2, .ref h6, .int 1])), (h5, .inl (kc0, 10, .inr (.inr (.inr (.inr (va_up (fun _ => none) 0 (some h7))))))), (h6, .inl (kc1, 10, .inr (.inr (.inr (.inr (va_up (fun _ => none) 0 (some (z.2.2.1 128)))))))), (h7, .inr (7, [.int 98, .int 120, .int 0, .int (-1), .int 0, .int (-1)])), (a1, .inl (k2, 40, .inl (upd (fun _ => 0) 0 120)))]) (tc := [(kc0, .object "java/lang/Object"), (kc1, .object "java/lang/Object"), (k2, .char)]) hP hD hK [0, 6, 1, 2, 3, 7, 4, 8, 5] [2, 0, 1] rfl rfl rfl rfl ht9 hW9, by rw [ht9]; exact Nat.le_trans (Nat.add_le_add_left (Nat.le_of_ble_eq_true rfl) _) hG⟩⟩⟩, hS.F ht9⟩) hS.2.2 dX9_valuesNow_42

set_option maxHeartbeats 4000000 in
set_option maxRecDepth 100000 in
theorem k75_init (l : Launch) (hl9 : l.stackTraces = false) (dC : Nat → ClassId) (dI : Nat → Nat → Nat) (z : XZ) (h0 h1 h2 : Nat) (sz : Nat) (kc0 : ClassId) : Met l yJx35411_init_45d68 (.code yJx35411_init_45d68 cJx35411_init_45d68 2 none :: wsL_law) ({ frames := 1, cells := 0, slots := 0, locals := 16 }) (va_Pc [.ref h0, .ref h1] (PC (dC, dI) [(h0, .inr (1, [.int 0, .int 0, .int 0, .null])), (h1, .inr (0, [.int 2, .ref h2, .int 1])), (h2, .inl (kc0, 10, .inr (.inr (.inr (.inr (va_up (fun _ => none) 0 (some (z.2.2.1 128))))))))] [(kc0, .object "java/lang/Object")] sz z)) (va_Qv (fun (_ : Unit) => True) (fun (_ : Unit) (t : State) => PG (dC, dI) [(h0, .inr (1, [.int 0, .int (-1), .int 2, .ref h1])), (h1, .inr (0, [.int 2, .ref h2, .int 1])), (h2, .inl (kc0, 10, .inr (.inr (.inr (.inr (va_up (fun _ => none) 0 (some (z.2.2.1 128))))))))] [(kc0, .object "java/lang/Object")] (va_A [(h0, .inr (1, [.int 0, .int 0, .int 0, .null])), (h1, .inr (0, [.int 2, .ref h2, .int 1])), (h2, .inl (kc0, 10, .inr (.inr (.inr (.inr (va_up (fun _ => none) 0 (some (z.2.2.1 128))))))))] sz) sz 0 t) (va_A [(h0, .inr (1, [.int 0, .int 0, .int 0, .null])), (h1, .inr (0, [.int 2, .ref h2, .int 1])), (h2, .inl (kc0, 10, .inr (.inr (.inr (.inr (va_up (fun _ => none) 0 (some (z.2.2.1 128))))))))] sz)) 0 0 (va_A [(h0, .inr (1, [.int 0, .int 0, .int 0, .null])), (h1, .inr (0, [.int 2, .ref h2, .int 1])), (h2, .inl (kc0, 10, .inr (.inr (.inr (.inr (va_up (fun _ => none) 0 (some (z.2.2.1 128))))))))] sz) := by
  refine Met.ofW (cc := cJx35411_init_45d68) (maxL := 2) (ret := none) (by decide) rfl ?_
  intro p e s m args below meth c s₁ B hml hv
  obtain ⟨rfl, hsz, hP, hK, hD0, hX, hT⟩ := hv
  have hx := B.exec
  have hb := B.bytes
  have hr := B.returns
  have hts0 := atoms_spec (ws := .code yJx35411_init_45d68 cJx35411_init_45d68 2 none :: wsL_law) B.pre
  have hts := xTail hts0
  have hown : s.vm.findClass RJx35411 = some m.cls := findClass_of_methodNamed B.named
  have hlocks := B.notSynchronized
  have hin : meth.name = "<init>" := (name_of_methodNamed B.named B.method).1
  subst hsz
  have hD := hD0.self (sz := s.heap.size)
  generalize hAe : va_A [(h0, .inr (1, [.int 0, .int 0, .int 0, .null])), (h1, .inr (0, [.int 2, .ref h2, .int 1])), (h2, .inl (kc0, 10, .inr (.inr (.inr (.inr (va_up (fun _ => none) 0 (some (z.2.2.1 128))))))))] s.heap.size = A at hD hX ⊢
  have hA : ∀ q : Nat, s.heap.size ≤ q → A q := fun q h => by rw [← hAe]; exact Or.inr h
  have hS : va_S A s.heap s.heap [] := va_S.rf
  have hG : s.heap.size + 0 ≤ s.heap.size := Nat.le_refl _
  have hl := lv_entry ([.ref h0, .ref h1]) (n := 2) (Nat.le_of_ble_eq_true rfl)
  rw [lg_entry_eq]
  generalize (lg_sl ([.ref h0, .ref h1]) ++ List.replicate (2 - (lg_sl ([.ref h0, .ref h1])).length) Slot.unset).toArray = ls at hl ⊢
  have hl : lv_has ls 2 [(0, .ref h0), (1, .ref h1)] := hl
  refine lv_aload_n hx hb dJx35411_init_45d68_0 rfl (lv_at hl 0 rfl) ?_
  refine lv_aload_n hx hb dJx35411_init_45d68_1 rfl (lv_at hl 1 rfl) ?_
  refine va_putF (D := (dC, dI)) (ci := 1) (v := .ref h1) (ty := .object "java/util/ArrayList") (C := RJx35411) (T := TJx35411) (N := 4) hx hb hts in_Jx35411 tyJx35411 tyJx35411_ok nmJx35411 hown hK hP hD (va_Sre hS) 0 rfl rfl 3 (by decide) (hts _ q_258) (fun _ h9 => h9) rfl hin rfl (by decide +kernel) rfl rfl (Nat.le_of_ble_eq_true rfl) dJx35411_init_45d68_2 (fun H1 _ hP hD hS' => ?_)
  have hG : s.heap.size + 0 ≤ H1.size := Nat.le_trans hG hS'.1
  have hS := va_Str hS hS'
  have hP : va_P (dC, dI) xCl [(h0, .inr (1, [.int 0, .int 0, .int 0, .ref h1])), (h1, .inr (0, [.int 2, .ref h2, .int 1])), (h2, .inl (kc0, 10, .inr (.inr (.inr (.inr (va_up (fun _ => none) 0 (some (z.2.2.1 128))))))))] H1 := hP
  have hD : va_D A [(h0, .inr (1, [.int 0, .int 0, .int 0, .ref h1])), (h1, .inr (0, [.int 2, .ref h2, .int 1])), (h2, .inl (kc0, 10, .inr (.inr (.inr (.inr (va_up (fun _ => none) 0 (some (z.2.2.1 128))))))))] := hD
  refine lv_aload_n hx hb dJx35411_init_45d68_5 rfl (lv_at hl 0 rfl) ?_
  refine W.objInit hx hb hown (hts _ q_259) (hts _ q_1) (hts _ q_2) rfl (by rw [hml]; exact hl.1) rfl dJx35411_init_45d68_6 (Nat.le_of_ble_eq_true rfl) (Nat.le_of_ble_eq_true rfl) ?_
  refine W.eq (g2 := F0 m 9 ls []) rfl ?_
  refine lv_aload_n hx hb dJx35411_init_45d68_9 rfl (lv_at hl 0 rfl) ?_
  refine lv_iconst (v := (-1)) hx hb dJx35411_init_45d68_10 (by decide) ?_
  refine va_put (D := (dC, dI)) (ci := 1) (v := .int (-1)) (ty := .int) (C := RJx35411) (T := TJx35411) (N := 4) hx hb hts in_Jx35411 tyJx35411 tyJx35411_ok nmJx35411 hown hK hP hD (va_Sre hS) 0 rfl rfl 1 (by decide) (hts _ q_260) (fun _ h9 => h9) rfl (by decide +kernel) rfl rfl (Nat.le_of_ble_eq_true rfl) dJx35411_init_45d68_11 (fun H2 _ hP hD hS' => ?_)
  have hG : s.heap.size + 0 ≤ H2.size := Nat.le_trans hG hS'.1
  have hS := va_Str hS hS'
  have hP : va_P (dC, dI) xCl [(h0, .inr (1, [.int 0, .int (-1), .int 0, .ref h1])), (h1, .inr (0, [.int 2, .ref h2, .int 1])), (h2, .inl (kc0, 10, .inr (.inr (.inr (.inr (va_up (fun _ => none) 0 (some (z.2.2.1 128))))))))] H2 := hP
  have hD : va_D A [(h0, .inr (1, [.int 0, .int (-1), .int 0, .ref h1])), (h1, .inr (0, [.int 2, .ref h2, .int 1])), (h2, .inl (kc0, 10, .inr (.inr (.inr (.inr (va_up (fun _ => none) 0 (some (z.2.2.1 128))))))))] := hD
  refine lv_aload_n hx hb dJx35411_init_45d68_14 rfl (lv_at hl 0 rfl) ?_
  refine lv_aload_n hx hb dJx35411_init_45d68_15 rfl (lv_at hl 0 rfl) ?_
  refine va_get (D := (dC, dI)) (ci := 1) (v := .ref h1) (C := RJx35411) (T := TJx35411) (N := 4) hx hb hts in_Jx35411 hown hK hP 0 rfl rfl 3 (by decide) (hts _ q_258) (fun _ h9 => h9) rfl dJx35411_init_45d68_16 ?_
  refine va_get (D := (dC, dI)) (ci := 0) (v := .int 2) (C := RJx4a65c) (T := TJx4a65c) (N := 3) hx hb hts in_Jx4a65c hown hK hP 1 rfl rfl 0 (by decide) (hts _ q_261) (u_same (hts _ q_89)) rfl dJx35411_init_45d68_19 ?_
  refine va_put (D := (dC, dI)) (ci := 1) (v := .int 2) (ty := .int) (C := RJx35411) (T := TJx35411) (N := 4) hx hb hts in_Jx35411 tyJx35411 tyJx35411_ok nmJx35411 hown hK hP hD (va_Sre hS) 0 rfl rfl 2 (by decide) (hts _ q_262) (fun _ h9 => h9) rfl (by decide +kernel) rfl rfl (Nat.le_of_ble_eq_true rfl) dJx35411_init_45d68_22 (fun H3 _ hP hD hS' => ?_)
  have hG : s.heap.size + 0 ≤ H3.size := Nat.le_trans hG hS'.1
  have hS := va_Str hS hS'
  have hP : va_P (dC, dI) xCl [(h0, .inr (1, [.int 0, .int (-1), .int 2, .ref h1])), (h1, .inr (0, [.int 2, .ref h2, .int 1])), (h2, .inl (kc0, 10, .inr (.inr (.inr (.inr (va_up (fun _ => none) 0 (some (z.2.2.1 128))))))))] H3 := hP
  have hD : va_D A [(h0, .inr (1, [.int 0, .int (-1), .int 2, .ref h1])), (h1, .inr (0, [.int 2, .ref h2, .int 1])), (h2, .inl (kc0, 10, .inr (.inr (.inr (.inr (va_up (fun _ => none) 0 (some (z.2.2.1 128))))))))] := hD
  exact W.vret hx hb hr (fun t9 ht9 hW9 => ⟨⟨(), rfl, trivial, ⟨pq_mk (wc := [(h0, .inr (1, [.int 0, .int (-1), .int 2, .ref h1])), (h1, .inr (0, [.int 2, .ref h2, .int 1])), (h2, .inl (kc0, 10, .inr (.inr (.inr (.inr (va_up (fun _ => none) 0 (some (z.2.2.1 128))))))))]) (tc := [(kc0, .object "java/lang/Object")]) hP hD hK [0, 1, 2] [0] rfl rfl rfl rfl ht9 hW9, by rw [ht9]; exact Nat.le_trans (Nat.add_le_add_left (Nat.le_of_ble_eq_true rfl) _) hG⟩⟩, hS.F ht9⟩) hS.2.2 dJx35411_init_45d68_25

set_option maxHeartbeats 4000000 in
set_option maxRecDepth 100000 in
theorem k76_iterator (l : Launch) (hl9 : l.stackTraces = false) (dC : Nat → ClassId) (dI : Nat → Nat → Nat) (z : XZ) (h0 h1 : Nat) (sz : Nat) (kc0 : ClassId) : Met l yJx4a65c_iterator_32c93 (.code yJx4a65c_iterator_32c93 cJx4a65c_iterator_32c93 1 (some (.object "java/util/Iterator")) :: wsL_law) ({ frames := 2, cells := 1, slots := 4, locals := 37 }) (va_Pc [.ref h0] (PC (dC, dI) [(h0, .inr (0, [.int 2, .ref h1, .int 1])), (h1, .inl (kc0, 10, .inr (.inr (.inr (.inr (va_up (fun _ => none) 0 (some (z.2.2.1 128))))))))] [(kc0, .object "java/lang/Object")] sz z)) (va_Qr (fun (_ : Unit) => True) (fun (_ : Unit) (ra : Nat) (t : State) => ∃ (n0 : Nat), ra = n0 ∧ PG (dC, dI) [(h0, .inr (0, [.int 2, .ref h1, .int 1])), (h1, .inl (kc0, 10, .inr (.inr (.inr (.inr (va_up (fun _ => none) 0 (some (z.2.2.1 128)))))))), (n0, .inr (1, [.int 0, .int (-1), .int 2, .ref h0]))] [(kc0, .object "java/lang/Object")] (va_A [(h0, .inr (0, [.int 2, .ref h1, .int 1])), (h1, .inl (kc0, 10, .inr (.inr (.inr (.inr (va_up (fun _ => none) 0 (some (z.2.2.1 128))))))))] sz) sz 1 t) (va_A [(h0, .inr (0, [.int 2, .ref h1, .int 1])), (h1, .inl (kc0, 10, .inr (.inr (.inr (.inr (va_up (fun _ => none) 0 (some (z.2.2.1 128))))))))] sz)) 1 4 (va_A [(h0, .inr (0, [.int 2, .ref h1, .int 1])), (h1, .inl (kc0, 10, .inr (.inr (.inr (.inr (va_up (fun _ => none) 0 (some (z.2.2.1 128))))))))] sz) := by
  refine Met.ofW (cc := cJx4a65c_iterator_32c93) (maxL := 1) (ret := (some (.object "java/util/Iterator"))) (by decide) rfl ?_
  intro p e s m args below meth c s₁ B hml hv
  obtain ⟨rfl, hsz, hP, hK, hD0, hX, hT⟩ := hv
  have hx := B.exec
  have hb := B.bytes
  have hr := B.returns
  have hts0 := atoms_spec (ws := .code yJx4a65c_iterator_32c93 cJx4a65c_iterator_32c93 1 (some (.object "java/util/Iterator")) :: wsL_law) B.pre
  have hts := xTail hts0
  have hown : s.vm.findClass RJx4a65c = some m.cls := findClass_of_methodNamed B.named
  have hlocks := B.notSynchronized
  subst hsz
  have hD := hD0.self (sz := s.heap.size)
  generalize hAe : va_A [(h0, .inr (0, [.int 2, .ref h1, .int 1])), (h1, .inl (kc0, 10, .inr (.inr (.inr (.inr (va_up (fun _ => none) 0 (some (z.2.2.1 128))))))))] s.heap.size = A at hD hX ⊢
  have hA : ∀ q : Nat, s.heap.size ≤ q → A q := fun q h => by rw [← hAe]; exact Or.inr h
  have hS : va_S A s.heap s.heap [] := va_S.rf
  have hG : s.heap.size + 0 ≤ s.heap.size := Nat.le_refl _
  have hl := lv_entry ([.ref h0]) (n := 1) (Nat.le_of_ble_eq_true rfl)
  rw [lg_entry_eq]
  generalize (lg_sl ([.ref h0]) ++ List.replicate (1 - (lg_sl ([.ref h0])).length) Slot.unset).toArray = ls at hl ⊢
  have hl : lv_has ls 1 [(0, .ref h0)] := hl
  refine xa_new (ci := 1) (fs := [.int 0, .int 0, .int 0, .null]) (C := RJx35411) (T := TJx35411) (N := 4) hx hb hts in_Jx35411 tyJx35411 tyJx35411_ok hown (hts _ q_255) (hts _ q_256) (hts _ q_257) hK hP hD hS hA rfl nf_Jx35411 (Nat.le_of_ble_eq_true rfl) (Nat.le_of_ble_eq_true rfl) dJx4a65c_iterator_32c93_0 (fun a1 H2 hg8 hP hD hS => ?_)
  have hG : s.heap.size + 1 ≤ H2.size := by rw [hg8]; exact Nat.succ_le_succ hG
  have hP : va_P (dC, dI) xCl [(h0, .inr (0, [.int 2, .ref h1, .int 1])), (h1, .inl (kc0, 10, .inr (.inr (.inr (.inr (va_up (fun _ => none) 0 (some (z.2.2.1 128)))))))), (a1, .inr (1, [.int 0, .int 0, .int 0, .null]))] H2 := hP
  have hD : va_D A [(h0, .inr (0, [.int 2, .ref h1, .int 1])), (h1, .inl (kc0, 10, .inr (.inr (.inr (.inr (va_up (fun _ => none) 0 (some (z.2.2.1 128)))))))), (a1, .inr (1, [.int 0, .int 0, .int 0, .null]))] := hD
  refine W.widen (k := 1) (n := 4) (by decide) (by decide) ?_
  refine lv_dup hx hb dJx4a65c_iterator_32c93_3 rfl ?_
  refine lv_aload_n hx hb dJx4a65c_iterator_32c93_4 rfl (lv_at hl 0 rfl) ?_
  have hF3 := va_free (wc := [(a1, .inr (1, [.int 0, .int 0, .int 0, .null])), (h0, .inr (0, [.int 2, .ref h1, .int 1])), (h1, .inl (kc0, 10, .inr (.inr (.inr (.inr (va_up (fun _ => none) 0 (some (z.2.2.1 128))))))))]) hD hS hA [2, 0, 1] rfl
  refine va_callv (va_runI (As := [.ref h0]) (rest := [.ref a1]) ⟨hx, hb, hml, hown, hts⟩ (k75_init l hl9 dC dI z a1 h0 h1 H2.size kc0) (cwI 1 hts (gIL q_263) rfl rfl rfl (hts _ q_257) (hts _ q_264) (hts _ q_265) rfl (by decide +kernel) ⟨Nat.le_of_ble_eq_true rfl, Nat.le_of_ble_eq_true rfl⟩) ⟨pc_blind, fun U hU hW => ⟨rfl, pc_mk hP hD hK hS hX hT [2, 0, 1] [0] rfl rfl rfl rfl hF3 hU hW⟩⟩ rfl rfl hl.1 rfl (lv_room (Nat.le_of_ble_eq_true rfl)) dJx4a65c_iterator_32c93_5 ⟨(Nat.le_of_ble_eq_true rfl), (Nat.le_of_ble_eq_true rfl)⟩) hS (fun q9 _ h9 => hF3 q9 h9) hF3 (fun u5 t5 H5 L5 ht5 hvm5 hw5 hB5 hz5 hk5 hS => ?_)
  obtain ⟨hP, hD, hK⟩ := pq_join (wr := []) (tr := []) (wz := [(a1, .inr (1, [.int 0, .int (-1), .int 2, .ref h0])), (h0, .inr (0, [.int 2, .ref h1, .int 1])), (h1, .inl (kc0, 10, .inr (.inr (.inr (.inr (va_up (fun _ => none) 0 (some (z.2.2.1 128))))))))]) (tz := [(kc0, .object "java/lang/Object")]) hP hD hK [2, 0, 1] [] [] rfl rfl (by decide) (by decide) rfl hk5 hF3 hB5.1 ht5 hvm5 rfl rfl
  have hG : s.heap.size + 1 ≤ H5.size := Nat.le_trans hG hz5
  exact W.aret (v := .ref a1) hx hb hr (by first | exact Or.inl ⟨_, rfl⟩ | exact Or.inr ⟨_, rfl⟩) (Or.inr ⟨_, rfl⟩) (fun t9 ht9 hW9 => ⟨⟨(), a1, rfl, trivial, ⟨a1, rfl, ⟨pq_mk (wc := [(h0, .inr (0, [.int 2, .ref h1, .int 1])), (h1, .inl (kc0, 10, .inr (.inr (.inr (.inr (va_up (fun _ => none) 0 (some (z.2.2.1 128)))))))), (a1, .inr (1, [.int 0, .int (-1), .int 2, .ref h0]))]) (tc := [(kc0, .object "java/lang/Object")]) hP hD hK [1, 2, 0] [0] rfl rfl rfl rfl ht9 hW9, by rw [ht9]; exact Nat.le_trans (Nat.add_le_add_left (Nat.le_of_ble_eq_true rfl) _) hG⟩⟩⟩, hS.F ht9⟩) hS.2.2 dJx4a65c_iterator_32c93_8

set_option maxHeartbeats 4000000 in
set_option maxRecDepth 100000 in
theorem k77_hasNext (l : Launch) (hl9 : l.stackTraces = false) (dC : Nat → ClassId) (dI : Nat → Nat → Nat) (z : XZ) (h0 h1 h2 : Nat) (sz : Nat) (kc0 : ClassId) : Met l yJx35411_hasNext_aae02 (.code yJx35411_hasNext_aae02 cJx35411_hasNext_aae02 1 (some .boolean) :: wsL_law) ({ frames := 0, cells := 0, slots := 0, locals := 0 }) (va_Pc [.ref h0] (PC (dC, dI) [(h0, .inr (1, [.int 0, .int (-1), .int 2, .ref h1])), (h1, .inr (0, [.int 2, .ref h2, .int 1])), (h2, .inl (kc0, 10, .inr (.inr (.inr (.inr (va_up (fun _ => none) 0 (some (z.2.2.1 128))))))))] [(kc0, .object "java/lang/Object")] sz z)) (va_Qi (fun (r : Int32) (_ : Unit) => r = 1) (fun (_ : Unit) (t : State) => PG (dC, dI) [(h0, .inr (1, [.int 0, .int (-1), .int 2, .ref h1])), (h1, .inr (0, [.int 2, .ref h2, .int 1])), (h2, .inl (kc0, 10, .inr (.inr (.inr (.inr (va_up (fun _ => none) 0 (some (z.2.2.1 128))))))))] [(kc0, .object "java/lang/Object")] (va_A [(h0, .inr (1, [.int 0, .int (-1), .int 2, .ref h1])), (h1, .inr (0, [.int 2, .ref h2, .int 1])), (h2, .inl (kc0, 10, .inr (.inr (.inr (.inr (va_up (fun _ => none) 0 (some (z.2.2.1 128))))))))] sz) sz 0 t) (va_A [(h0, .inr (1, [.int 0, .int (-1), .int 2, .ref h1])), (h1, .inr (0, [.int 2, .ref h2, .int 1])), (h2, .inl (kc0, 10, .inr (.inr (.inr (.inr (va_up (fun _ => none) 0 (some (z.2.2.1 128))))))))] sz)) 0 0 (va_A [(h0, .inr (1, [.int 0, .int (-1), .int 2, .ref h1])), (h1, .inr (0, [.int 2, .ref h2, .int 1])), (h2, .inl (kc0, 10, .inr (.inr (.inr (.inr (va_up (fun _ => none) 0 (some (z.2.2.1 128))))))))] sz) := by
  refine Met.ofW (cc := cJx35411_hasNext_aae02) (maxL := 1) (ret := (some .boolean)) (by decide) rfl ?_
  intro p e s m args below meth c s₁ B hml hv
  obtain ⟨rfl, hsz, hP, hK, hD0, hX, hT⟩ := hv
  have hx := B.exec
  have hb := B.bytes
  have hr := B.returns
  have hts0 := atoms_spec (ws := .code yJx35411_hasNext_aae02 cJx35411_hasNext_aae02 1 (some .boolean) :: wsL_law) B.pre
  have hts := xTail hts0
  have hown : s.vm.findClass RJx35411 = some m.cls := findClass_of_methodNamed B.named
  have hlocks := B.notSynchronized
  subst hsz
  have hD := hD0.self (sz := s.heap.size)
  generalize hAe : va_A [(h0, .inr (1, [.int 0, .int (-1), .int 2, .ref h1])), (h1, .inr (0, [.int 2, .ref h2, .int 1])), (h2, .inl (kc0, 10, .inr (.inr (.inr (.inr (va_up (fun _ => none) 0 (some (z.2.2.1 128))))))))] s.heap.size = A at hD hX ⊢
  have hA : ∀ q : Nat, s.heap.size ≤ q → A q := fun q h => by rw [← hAe]; exact Or.inr h
  have hS : va_S A s.heap s.heap [] := va_S.rf
  have hG : s.heap.size + 0 ≤ s.heap.size := Nat.le_refl _
  have hl := lv_entry ([.ref h0]) (n := 1) (Nat.le_of_ble_eq_true rfl)
  rw [lg_entry_eq]
  generalize (lg_sl ([.ref h0]) ++ List.replicate (1 - (lg_sl ([.ref h0])).length) Slot.unset).toArray = ls at hl ⊢
  have hl : lv_has ls 1 [(0, .ref h0)] := hl
  refine lv_aload_n hx hb dJx35411_hasNext_aae02_0 rfl (lv_at hl 0 rfl) ?_
  refine va_get (D := (dC, dI)) (ci := 1) (v := .int 0) (C := RJx35411) (T := TJx35411) (N := 4) hx hb hts in_Jx35411 hown hK hP 0 rfl rfl 0 (by decide) (hts _ q_270) (fun _ h9 => h9) rfl dJx35411_hasNext_aae02_1 ?_
  refine lv_aload_n hx hb dJx35411_hasNext_aae02_4 rfl (lv_at hl 0 rfl) ?_
  refine va_get (D := (dC, dI)) (ci := 1) (v := .ref h1) (C := RJx35411) (T := TJx35411) (N := 4) hx hb hts in_Jx35411 hown hK hP 0 rfl rfl 3 (by decide) (hts _ q_258) (fun _ h9 => h9) rfl dJx35411_hasNext_aae02_5 ?_
  refine va_getN (D := (dC, dI)) (ci := 0) (v := .int 1) (C := RJx4a65c) (T := TJx4a65c) (N := 3) hx hb hts in_Jx4a65c hown hK hP 1 rfl rfl 2 (by decide) (va_Nw.use rfl hT.2.2.2.2.1) (fun _ h9 => h9) rfl dJx35411_hasNext_aae02_8 ?_
  refine lv_icmp_eq (tgt := 18) hx hb dJx35411_hasNext_aae02_11 (by decide) (fun cz => absurd cz (by decide)) (fun _ => ?_)
  refine lv_iconst (v := 1) hx hb dJx35411_hasNext_aae02_14 (by decide) ?_
  refine lv_goto (tgt := 19) hx hb dJx35411_hasNext_aae02_15 (by decide) ?_
  exact W.zret (v := 1) (ty := .boolean) hx hb hr rfl (fun t9 ht9 hW9 => ⟨⟨1, (), rfl, rfl, ⟨pq_mk (wc := [(h0, .inr (1, [.int 0, .int (-1), .int 2, .ref h1])), (h1, .inr (0, [.int 2, .ref h2, .int 1])), (h2, .inl (kc0, 10, .inr (.inr (.inr (.inr (va_up (fun _ => none) 0 (some (z.2.2.1 128))))))))]) (tc := [(kc0, .object "java/lang/Object")]) hP hD hK [0, 1, 2] [0] rfl rfl rfl rfl ht9 hW9, by rw [ht9]; exact Nat.le_trans (Nat.add_le_add_left (Nat.le_of_ble_eq_true rfl) _) hG⟩⟩, hS.F ht9⟩) hS.2.2 dJx35411_hasNext_aae02_19

set_option maxHeartbeats 4000000 in
set_option maxRecDepth 100000 in
theorem k78_checkForComodification (l : Launch) (hl9 : l.stackTraces = false) (dC : Nat → ClassId) (dI : Nat → Nat → Nat) (z : XZ) (h0 h1 h2 : Nat) (sz : Nat) (kc0 : ClassId) : Met l yJx35411_checkForComodification_da8c8 (.code yJx35411_checkForComodification_da8c8 cJx35411_checkForComodification_da8c8 1 none :: wsL_law) ({ frames := 0, cells := 0, slots := 0, locals := 0 }) (va_Pc [.ref h0] (PC (dC, dI) [(h0, .inr (1, [.int 0, .int (-1), .int 2, .ref h1])), (h1, .inr (0, [.int 2, .ref h2, .int 1])), (h2, .inl (kc0, 10, .inr (.inr (.inr (.inr (va_up (fun _ => none) 0 (some (z.2.2.1 128))))))))] [(kc0, .object "java/lang/Object")] sz z)) (va_Qv (fun (_ : Unit) => True) (fun (_ : Unit) (t : State) => PG (dC, dI) [(h0, .inr (1, [.int 0, .int (-1), .int 2, .ref h1])), (h1, .inr (0, [.int 2, .ref h2, .int 1])), (h2, .inl (kc0, 10, .inr (.inr (.inr (.inr (va_up (fun _ => none) 0 (some (z.2.2.1 128))))))))] [(kc0, .object "java/lang/Object")] (va_A [(h0, .inr (1, [.int 0, .int (-1), .int 2, .ref h1])), (h1, .inr (0, [.int 2, .ref h2, .int 1])), (h2, .inl (kc0, 10, .inr (.inr (.inr (.inr (va_up (fun _ => none) 0 (some (z.2.2.1 128))))))))] sz) sz 0 t) (va_A [(h0, .inr (1, [.int 0, .int (-1), .int 2, .ref h1])), (h1, .inr (0, [.int 2, .ref h2, .int 1])), (h2, .inl (kc0, 10, .inr (.inr (.inr (.inr (va_up (fun _ => none) 0 (some (z.2.2.1 128))))))))] sz)) 0 0 (va_A [(h0, .inr (1, [.int 0, .int (-1), .int 2, .ref h1])), (h1, .inr (0, [.int 2, .ref h2, .int 1])), (h2, .inl (kc0, 10, .inr (.inr (.inr (.inr (va_up (fun _ => none) 0 (some (z.2.2.1 128))))))))] sz) := by
  refine Met.ofW (cc := cJx35411_checkForComodification_da8c8) (maxL := 1) (ret := none) (by decide) rfl ?_
  intro p e s m args below meth c s₁ B hml hv
  obtain ⟨rfl, hsz, hP, hK, hD0, hX, hT⟩ := hv
  have hx := B.exec
  have hb := B.bytes
  have hr := B.returns
  have hts0 := atoms_spec (ws := .code yJx35411_checkForComodification_da8c8 cJx35411_checkForComodification_da8c8 1 none :: wsL_law) B.pre
  have hts := xTail hts0
  have hown : s.vm.findClass RJx35411 = some m.cls := findClass_of_methodNamed B.named
  have hlocks := B.notSynchronized
  subst hsz
  have hD := hD0.self (sz := s.heap.size)
  generalize hAe : va_A [(h0, .inr (1, [.int 0, .int (-1), .int 2, .ref h1])), (h1, .inr (0, [.int 2, .ref h2, .int 1])), (h2, .inl (kc0, 10, .inr (.inr (.inr (.inr (va_up (fun _ => none) 0 (some (z.2.2.1 128))))))))] s.heap.size = A at hD hX ⊢
  have hA : ∀ q : Nat, s.heap.size ≤ q → A q := fun q h => by rw [← hAe]; exact Or.inr h
  have hS : va_S A s.heap s.heap [] := va_S.rf
  have hG : s.heap.size + 0 ≤ s.heap.size := Nat.le_refl _
  have hl := lv_entry ([.ref h0]) (n := 1) (Nat.le_of_ble_eq_true rfl)
  rw [lg_entry_eq]
  generalize (lg_sl ([.ref h0]) ++ List.replicate (1 - (lg_sl ([.ref h0])).length) Slot.unset).toArray = ls at hl ⊢
  have hl : lv_has ls 1 [(0, .ref h0)] := hl
  refine lv_aload_n hx hb dJx35411_checkForComodification_da8c8_0 rfl (lv_at hl 0 rfl) ?_
  refine va_get (D := (dC, dI)) (ci := 1) (v := .ref h1) (C := RJx35411) (T := TJx35411) (N := 4) hx hb hts in_Jx35411 hown hK hP 0 rfl rfl 3 (by decide) (hts _ q_258) (fun _ h9 => h9) rfl dJx35411_checkForComodification_da8c8_1 ?_
  refine va_get (D := (dC, dI)) (ci := 0) (v := .int 2) (C := RJx4a65c) (T := TJx4a65c) (N := 3) hx hb hts in_Jx4a65c hown hK hP 1 rfl rfl 0 (by decide) (hts _ q_261) (u_same (hts _ q_89)) rfl dJx35411_checkForComodification_da8c8_4 ?_
  refine lv_aload_n hx hb dJx35411_checkForComodification_da8c8_7 rfl (lv_at hl 0 rfl) ?_
  refine va_get (D := (dC, dI)) (ci := 1) (v := .int 2) (C := RJx35411) (T := TJx35411) (N := 4) hx hb hts in_Jx35411 hown hK hP 0 rfl rfl 2 (by decide) (hts _ q_262) (fun _ h9 => h9) rfl dJx35411_checkForComodification_da8c8_8 ?_
  refine lv_icmp_eq (tgt := 22) hx hb dJx35411_checkForComodification_da8c8_11 (by decide) (fun _ => ?_) (fun cz => absurd (by decide) cz)
  exact W.vret hx hb hr (fun t9 ht9 hW9 => ⟨⟨(), rfl, trivial, ⟨pq_mk (wc := [(h0, .inr (1, [.int 0, .int (-1), .int 2, .ref h1])), (h1, .inr (0, [.int 2, .ref h2, .int 1])), (h2, .inl (kc0, 10, .inr (.inr (.inr (.inr (va_up (fun _ => none) 0 (some (z.2.2.1 128))))))))]) (tc := [(kc0, .object "java/lang/Object")]) hP hD hK [0, 1, 2] [0] rfl rfl rfl rfl ht9 hW9, by rw [ht9]; exact Nat.le_trans (Nat.add_le_add_left (Nat.le_of_ble_eq_true rfl) _) hG⟩⟩, hS.F ht9⟩) hS.2.2 dJx35411_checkForComodification_da8c8_22

set_option maxHeartbeats 4000000 in
set_option maxRecDepth 100000 in
theorem k79_next (l : Launch) (hl9 : l.stackTraces = false) (dC : Nat → ClassId) (dI : Nat → Nat → Nat) (z : XZ) (h0 h1 h2 : Nat) (sz : Nat) (kc0 : ClassId) : Met l yJx35411_next_0502b (.code yJx35411_next_0502b cJx35411_next_0502b 3 (some (.object "java/lang/Object")) :: wsL_law) ({ frames := 1, cells := 0, slots := 0, locals := 20 }) (va_Pc [.ref h0] (PC (dC, dI) [(h0, .inr (1, [.int 0, .int (-1), .int 2, .ref h1])), (h1, .inr (0, [.int 2, .ref h2, .int 1])), (h2, .inl (kc0, 10, .inr (.inr (.inr (.inr (va_up (fun _ => none) 0 (some (z.2.2.1 128))))))))] [(kc0, .object "java/lang/Object")] sz z)) (va_Qr (fun (_ : Unit) => True) (fun (_ : Unit) (ra : Nat) (t : State) => ra = (z.2.2.1 128) ∧ PG (dC, dI) [(h0, .inr (1, [.int 1, .int 0, .int 2, .ref h1])), (h1, .inr (0, [.int 2, .ref h2, .int 1])), (h2, .inl (kc0, 10, .inr (.inr (.inr (.inr (va_up (fun _ => none) 0 (some (z.2.2.1 128))))))))] [(kc0, .object "java/lang/Object")] (va_A [(h0, .inr (1, [.int 0, .int (-1), .int 2, .ref h1])), (h1, .inr (0, [.int 2, .ref h2, .int 1])), (h2, .inl (kc0, 10, .inr (.inr (.inr (.inr (va_up (fun _ => none) 0 (some (z.2.2.1 128))))))))] sz) sz 0 t) (va_A [(h0, .inr (1, [.int 0, .int (-1), .int 2, .ref h1])), (h1, .inr (0, [.int 2, .ref h2, .int 1])), (h2, .inl (kc0, 10, .inr (.inr (.inr (.inr (va_up (fun _ => none) 0 (some (z.2.2.1 128))))))))] sz)) 0 0 (va_A [(h0, .inr (1, [.int 0, .int (-1), .int 2, .ref h1])), (h1, .inr (0, [.int 2, .ref h2, .int 1])), (h2, .inl (kc0, 10, .inr (.inr (.inr (.inr (va_up (fun _ => none) 0 (some (z.2.2.1 128))))))))] sz) := by
  refine Met.ofW (cc := cJx35411_next_0502b) (maxL := 3) (ret := (some (.object "java/lang/Object"))) (by decide) rfl ?_
  intro p e s m args below meth c s₁ B hml hv
  obtain ⟨rfl, hsz, hP, hK, hD0, hX, hT⟩ := hv
  have hx := B.exec
  have hb := B.bytes
  have hr := B.returns
  have hts0 := atoms_spec (ws := .code yJx35411_next_0502b cJx35411_next_0502b 3 (some (.object "java/lang/Object")) :: wsL_law) B.pre
  have hts := xTail hts0
  have hown : s.vm.findClass RJx35411 = some m.cls := findClass_of_methodNamed B.named
  have hlocks := B.notSynchronized
  subst hsz
  have hD := hD0.self (sz := s.heap.size)
  generalize hAe : va_A [(h0, .inr (1, [.int 0, .int (-1), .int 2, .ref h1])), (h1, .inr (0, [.int 2, .ref h2, .int 1])), (h2, .inl (kc0, 10, .inr (.inr (.inr (.inr (va_up (fun _ => none) 0 (some (z.2.2.1 128))))))))] s.heap.size = A at hD hX ⊢
  have hA : ∀ q : Nat, s.heap.size ≤ q → A q := fun q h => by rw [← hAe]; exact Or.inr h
  have hS : va_S A s.heap s.heap [] := va_S.rf
  have hG : s.heap.size + 0 ≤ s.heap.size := Nat.le_refl _
  have hl := lv_entry ([.ref h0]) (n := 3) (Nat.le_of_ble_eq_true rfl)
  rw [lg_entry_eq]
  generalize (lg_sl ([.ref h0]) ++ List.replicate (3 - (lg_sl ([.ref h0])).length) Slot.unset).toArray = ls at hl ⊢
  have hl : lv_has ls 3 [(0, .ref h0)] := hl
  refine lv_aload_n hx hb dJx35411_next_0502b_0 rfl (lv_at hl 0 rfl) ?_
  have hF1 := va_free (wc := [(h0, .inr (1, [.int 0, .int (-1), .int 2, .ref h1])), (h1, .inr (0, [.int 2, .ref h2, .int 1])), (h2, .inl (kc0, 10, .inr (.inr (.inr (.inr (va_up (fun _ => none) 0 (some (z.2.2.1 128))))))))]) hD hS hA [0, 1, 2] rfl
  refine va_callv (va_runV (As := []) (rest := []) ⟨hx, hb, hml, hown, hts⟩ (k78_checkForComodification l hl9 dC dI z h0 h1 h2 s.heap.size kc0) (cwV 0 hts (gV q_286 q_287 q_288 q_257 q_285) rfl rfl rfl (by decide +kernel) ⟨Nat.le_of_ble_eq_true rfl, Nat.le_of_ble_eq_true rfl⟩) ⟨pc_blind, va_recv hK hP (ci := 1) (q0 := 0) rfl rfl, fun U hU hW => ⟨rfl, pc_mk hP hD hK hS hX hT [0, 1, 2] [0] rfl rfl rfl rfl hF1 hU hW⟩⟩ rfl rfl hl.1 rfl (lv_room (Nat.le_of_ble_eq_true rfl)) dJx35411_next_0502b_1 ⟨(Nat.le_of_ble_eq_true rfl), (Nat.le_of_ble_eq_true rfl)⟩) hS (fun q9 _ h9 => hF1 q9 h9) hF1 (fun u3 t3 H3 L3 ht3 hvm3 hw3 hB3 hz3 hk3 hS => ?_)
  obtain ⟨hP, hD, hK⟩ := pq_join (wr := []) (tr := []) (wz := [(h0, .inr (1, [.int 0, .int (-1), .int 2, .ref h1])), (h1, .inr (0, [.int 2, .ref h2, .int 1])), (h2, .inl (kc0, 10, .inr (.inr (.inr (.inr (va_up (fun _ => none) 0 (some (z.2.2.1 128))))))))]) (tz := [(kc0, .object "java/lang/Object")]) hP hD hK [0, 1, 2] [] [] rfl rfl (by decide) (by decide) rfl hk3 hF1 hB3.1 ht3 hvm3 rfl rfl
  have hG : s.heap.size + 0 ≤ H3.size := Nat.le_trans hG hz3
  refine lv_aload_n hx hb dJx35411_next_0502b_4 rfl (lv_at hl 0 rfl) ?_
  refine va_get (D := (dC, dI)) (ci := 1) (v := .int 0) (C := RJx35411) (T := TJx35411) (N := 4) hx hb hts in_Jx35411 hown hK hP 0 rfl rfl 0 (by decide) (hts _ q_270) (fun _ h9 => h9) rfl dJx35411_next_0502b_5 ?_
  refine lv_istore_n (lv' := [(1, .int 0), (0, .ref h0)]) hx hb dJx35411_next_0502b_8 rfl hl (by decide) rfl (fun ls hl => ?_)
  refine lv_iload_n hx hb dJx35411_next_0502b_9 rfl (lv_at hl 0 rfl) ?_
  refine lv_aload_n hx hb dJx35411_next_0502b_10 rfl (lv_at hl 1 rfl) ?_
  refine va_get (D := (dC, dI)) (ci := 1) (v := .ref h1) (C := RJx35411) (T := TJx35411) (N := 4) hx hb hts in_Jx35411 hown hK hP 0 rfl rfl 3 (by decide) (hts _ q_258) (fun _ h9 => h9) rfl dJx35411_next_0502b_11 ?_
  refine va_getN (D := (dC, dI)) (ci := 0) (v := .int 1) (C := RJx4a65c) (T := TJx4a65c) (N := 3) hx hb hts in_Jx4a65c hown hK hP 1 rfl rfl 2 (by decide) (va_Nw.use rfl hT.2.2.2.2.1) (fun _ h9 => h9) rfl dJx35411_next_0502b_14 ?_
  refine lv_icmp_lt (tgt := 28) hx hb dJx35411_next_0502b_17 (by decide) (fun _ => ?_) (fun cz => absurd (by decide) cz)
  refine lv_aload_n hx hb dJx35411_next_0502b_28 rfl (lv_at hl 1 rfl) ?_
  refine va_get (D := (dC, dI)) (ci := 1) (v := .ref h1) (C := RJx35411) (T := TJx35411) (N := 4) hx hb hts in_Jx35411 hown hK hP 0 rfl rfl 3 (by decide) (hts _ q_258) (fun _ h9 => h9) rfl dJx35411_next_0502b_29 ?_
  refine va_get (D := (dC, dI)) (ci := 0) (v := .ref h2) (C := RJx4a65c) (T := TJx4a65c) (N := 3) hx hb hts in_Jx4a65c hown hK hP 1 rfl rfl 1 (by decide) (hts _ q_289) (fun _ h9 => h9) rfl dJx35411_next_0502b_32 ?_
  refine lv_astore_n (lv' := [(2, .ref h2), (1, .int 0), (0, .ref h0)]) hx hb dJx35411_next_0502b_35 rfl hl (by decide) rfl (fun ls hl => ?_)
  refine lv_iload_n hx hb dJx35411_next_0502b_36 rfl (lv_at hl 1 rfl) ?_
  refine lv_aload_n hx hb dJx35411_next_0502b_37 rfl (lv_at hl 0 rfl) ?_
  refine va_alen hx hb hK hP 2 0 rfl rfl (v := 10) rfl dJx35411_next_0502b_38 ?_
  refine lv_icmp_lt (tgt := 50) hx hb dJx35411_next_0502b_39 (by decide) (fun _ => ?_) (fun cz => absurd (by decide) cz)
  refine lv_aload_n hx hb dJx35411_next_0502b_50 rfl (lv_at hl 2 rfl) ?_
  refine lv_iload_n hx hb dJx35411_next_0502b_51 rfl (lv_at hl 1 rfl) ?_
  refine lv_iconst (v := 1) hx hb dJx35411_next_0502b_52 (by decide) ?_
  refine lv_iadd hx hb dJx35411_next_0502b_53 ?_
  refine lv_topi (fun y5 ey5 => ?_)
  obtain rfl : y5 = 1 := ey5.trans (by decide)
  refine va_put (D := (dC, dI)) (ci := 1) (v := .int 1) (ty := .int) (C := RJx35411) (T := TJx35411) (N := 4) hx hb hts in_Jx35411 tyJx35411 tyJx35411_ok nmJx35411 hown hK hP hD (va_Sre hS) 0 rfl rfl 0 (by decide) (hts _ q_270) (fun _ h9 => h9) rfl (by decide +kernel) rfl rfl (Nat.le_of_ble_eq_true rfl) dJx35411_next_0502b_54 (fun H6 _ hP hD hS' => ?_)
  have hG : s.heap.size + 0 ≤ H6.size := Nat.le_trans hG hS'.1
  have hS := va_Str hS hS'
  have hP : va_P (dC, dI) xCl [(h0, .inr (1, [.int 1, .int (-1), .int 2, .ref h1])), (h1, .inr (0, [.int 2, .ref h2, .int 1])), (h2, .inl (kc0, 10, .inr (.inr (.inr (.inr (va_up (fun _ => none) 0 (some (z.2.2.1 128))))))))] H6 := hP
  have hD : va_D A [(h0, .inr (1, [.int 1, .int (-1), .int 2, .ref h1])), (h1, .inr (0, [.int 2, .ref h2, .int 1])), (h2, .inl (kc0, 10, .inr (.inr (.inr (.inr (va_up (fun _ => none) 0 (some (z.2.2.1 128))))))))] := hD
  refine lv_aload_n hx hb dJx35411_next_0502b_57 rfl (lv_at hl 0 rfl) ?_
  refine lv_aload_n hx hb dJx35411_next_0502b_58 rfl (lv_at hl 2 rfl) ?_
  refine lv_iload_n hx hb dJx35411_next_0502b_59 rfl (lv_at hl 1 rfl) ?_
  refine lv_dup_x1 hx hb dJx35411_next_0502b_60 rfl rfl ?_
  refine va_put (D := (dC, dI)) (ci := 1) (v := .int 0) (ty := .int) (C := RJx35411) (T := TJx35411) (N := 4) hx hb hts in_Jx35411 tyJx35411 tyJx35411_ok nmJx35411 hown hK hP hD (va_Sre hS) 0 rfl rfl 1 (by decide) (hts _ q_260) (fun _ h9 => h9) rfl (by decide +kernel) rfl rfl (Nat.le_of_ble_eq_true rfl) dJx35411_next_0502b_61 (fun H7 _ hP hD hS' => ?_)
  have hG : s.heap.size + 0 ≤ H7.size := Nat.le_trans hG hS'.1
  have hS := va_Str hS hS'
  have hP : va_P (dC, dI) xCl [(h0, .inr (1, [.int 1, .int 0, .int 2, .ref h1])), (h1, .inr (0, [.int 2, .ref h2, .int 1])), (h2, .inl (kc0, 10, .inr (.inr (.inr (.inr (va_up (fun _ => none) 0 (some (z.2.2.1 128))))))))] H7 := hP
  have hD : va_D A [(h0, .inr (1, [.int 1, .int 0, .int 2, .ref h1])), (h1, .inr (0, [.int 2, .ref h2, .int 1])), (h2, .inl (kc0, 10, .inr (.inr (.inr (.inr (va_up (fun _ => none) 0 (some (z.2.2.1 128))))))))] := hD
  refine va_aldq hx hb hK hP 2 0 rfl rfl (i := 0) (by unfold vp_in; decide) dJx35411_next_0502b_64 ?_
  refine W.eq (g2 := F0 m 65 ls [.ref (z.2.2.1 128)]) rfl ?_
  exact W.aret (v := .ref (z.2.2.1 128)) hx hb hr (by first | exact Or.inl ⟨_, rfl⟩ | exact Or.inr ⟨_, rfl⟩) (Or.inr ⟨_, rfl⟩) (fun t9 ht9 hW9 => ⟨⟨(), (z.2.2.1 128), rfl, trivial, ⟨rfl, ⟨pq_mk (wc := [(h0, .inr (1, [.int 1, .int 0, .int 2, .ref h1])), (h1, .inr (0, [.int 2, .ref h2, .int 1])), (h2, .inl (kc0, 10, .inr (.inr (.inr (.inr (va_up (fun _ => none) 0 (some (z.2.2.1 128))))))))]) (tc := [(kc0, .object "java/lang/Object")]) hP hD hK [0, 1, 2] [0] rfl rfl rfl rfl ht9 hW9, by rw [ht9]; exact Nat.le_trans (Nat.add_le_add_left (Nat.le_of_ble_eq_true rfl) _) hG⟩⟩⟩, hS.F ht9⟩) hS.2.2 dJx35411_next_0502b_65

set_option maxHeartbeats 4000000 in
set_option maxRecDepth 100000 in
theorem k80_intValue (l : Launch) (hl9 : l.stackTraces = false) (dC : Nat → ClassId) (dI : Nat → Nat → Nat) (z : XZ) (sz : Nat) : Met l yJ6_intValue_8abf5 (.code yJ6_intValue_8abf5 cJ6_intValue_8abf5 1 (some .int) :: wsL_law) ({ frames := 0, cells := 0, slots := 0, locals := 0 }) (va_Pc [.ref (z.2.2.1 128)] (PC (dC, dI) [] [] sz z)) (va_Qi (fun (r : Int32) (_ : Unit) => r = 0) (fun (_ : Unit) (t : State) => PG (dC, dI) [] [] (va_A [] sz) sz 0 t) (va_A [] sz)) 0 0 (va_A [] sz) := by
  refine Met.ofW (cc := cJ6_intValue_8abf5) (maxL := 1) (ret := (some .int)) (by decide) rfl ?_
  intro p e s m args below meth c s₁ B hml hv
  obtain ⟨rfl, hsz, hP, hK, hD0, hX, hT⟩ := hv
  have hx := B.exec
  have hb := B.bytes
  have hr := B.returns
  have hts0 := atoms_spec (ws := .code yJ6_intValue_8abf5 cJ6_intValue_8abf5 1 (some .int) :: wsL_law) B.pre
  have hts := xTail hts0
  have hown : s.vm.findClass RJ6 = some m.cls := findClass_of_methodNamed B.named
  have hlocks := B.notSynchronized
  subst hsz
  have hD := hD0.self (sz := s.heap.size)
  generalize hAe : va_A [] s.heap.size = A at hD hX ⊢
  have hA : ∀ q : Nat, s.heap.size ≤ q → A q := fun q h => by rw [← hAe]; exact Or.inr h
  have hS : va_S A s.heap s.heap [] := va_S.rf
  have hG : s.heap.size + 0 ≤ s.heap.size := Nat.le_refl _
  have hl := lv_entry ([.ref (z.2.2.1 128)]) (n := 1) (Nat.le_of_ble_eq_true rfl)
  rw [lg_entry_eq]
  generalize (lg_sl ([.ref (z.2.2.1 128)]) ++ List.replicate (1 - (lg_sl ([.ref (z.2.2.1 128)])).length) Slot.unset).toArray = ls at hl ⊢
  have hl : lv_has ls 1 [(0, .ref (z.2.2.1 128))] := hl
  refine lv_aload_n hx hb dJ6_intValue_8abf5_0 rfl (lv_at hl 0 rfl) ?_
  refine va_getX (own := RJ6) (ref := "java/lang/Integer") hx hb hX.2.2.1.1.2 (i := 128) (by decide) hS hown (hts _ q_304) (fun _ h9 => h9) dJ6_intValue_8abf5_1 ?_
  refine W.eq (g2 := F0 m 4 ls [.int 0]) rfl ?_
  exact W.iret (v := 0) hx hb hr (fun t9 ht9 hW9 => ⟨⟨0, (), rfl, rfl, ⟨pq_mk (wc := []) (tc := []) hP hD hK [] [] rfl rfl rfl rfl ht9 hW9, by rw [ht9]; exact Nat.le_trans (Nat.add_le_add_left (Nat.le_of_ble_eq_true rfl) _) hG⟩⟩, hS.F ht9⟩) hS.2.2 dJ6_intValue_8abf5_4
