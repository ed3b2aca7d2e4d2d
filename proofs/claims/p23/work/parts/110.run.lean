set_option maxHeartbeats 4000000 in
set_option maxRecDepth 100000 in
theorem k315_add (l : Launch) (hl9 : l.stackTraces = false) (dC : Nat → ClassId) (dI : Nat → Nat → Nat) (z : XZ) (h0 h1 : Nat) (sz : Nat) (kc0 : ClassId) : Met l yJx4a65c_add_72be8 (.code yJx4a65c_add_72be8 cJx4a65c_add_72be8 4 none :: wsL_law) ({ frames := 0, cells := 0, slots := 0, locals := 0 }) (va_Pc [.ref h0, .ref (z.2.2.1 130), .ref h1, .int 2] (PC (dC, dI) [(h0, ce162 h1), (h1, ce161 kc0 (z.2.2.1 128) (z.2.2.1 129))] [(kc0, .object "java/lang/Object")] sz z)) (va_Qv (fun (_ : Unit) => True) (fun (_ : Unit) (t : State) => PG (dC, dI) [(h0, ce164 h1), (h1, ce101 kc0 (z.2.2.1 128) (z.2.2.1 129) (z.2.2.1 130))] [(kc0, .object "java/lang/Object")] (va_A [(h0, ce162 h1), (h1, ce161 kc0 (z.2.2.1 128) (z.2.2.1 129))] sz) sz 0 t) (va_A [(h0, ce162 h1), (h1, ce161 kc0 (z.2.2.1 128) (z.2.2.1 129))] sz)) 0 0 (va_A [(h0, ce162 h1), (h1, ce161 kc0 (z.2.2.1 128) (z.2.2.1 129))] sz) := by
  refine Met.ofW (cc := cJx4a65c_add_72be8) (maxL := 4) (ret := none) (by decide) rfl ?_
  intro p e s m args below meth c s₁ B hml hv
  obtain ⟨rfl, hsz, hP, hK, hD0, hX, hT⟩ := hv
  have hx := B.exec
  have hb := B.bytes
  have hr := B.returns
  have hts0 := atoms_spec (ws := .code yJx4a65c_add_72be8 cJx4a65c_add_72be8 4 none :: wsL_law) B.pre
  have hts := xTail hts0
  have hown : s.vm.findClass RJx4a65c = some m.cls := xown B.named rfl
  have hlocks := B.notSynchronized
  subst hsz
  have hD := hD0.self (sz := s.heap.size)
  generalize hAe : va_A [(h0, ce162 h1), (h1, ce161 kc0 (z.2.2.1 128) (z.2.2.1 129))] s.heap.size = A at hD hX ⊢
  have hA : ∀ q : Nat, s.heap.size ≤ q → A q := fun q h => by rw [← hAe]; exact Or.inr h
  have hS : va_S A s.heap s.heap [] := va_S.rf
  have hG : s.heap.size + 0 ≤ s.heap.size := Nat.le_refl _
  have hl := lv_entry ([.ref h0, .ref (z.2.2.1 130), .ref h1, .int 2]) (n := 4) (Nat.le_of_ble_eq_true rfl)
  rw [lg_entry_eq]
  generalize (lg_sl ([.ref h0, .ref (z.2.2.1 130), .ref h1, .int 2]) ++ List.replicate (4 - (lg_sl ([.ref h0, .ref (z.2.2.1 130), .ref h1, .int 2])).length) Slot.unset).toArray = ls at hl ⊢
  have hl : lv_has ls 4 [(0, .ref h0), (1, .ref (z.2.2.1 130)), (2, .ref h1), (3, .int 2)] := hl
  refine lv_iload_n hx hb dJx4a65c_add_72be8_0 rfl (lv_at hl 3 rfl) ?_
  refine lv_aload_n hx hb dJx4a65c_add_72be8_1 rfl (lv_at hl 2 rfl) ?_
  refine va_alen hx hb hK hP 1 0 rfl rfl (v := 10) rfl dJx4a65c_add_72be8_2 ?_
  refine lv_icmp_ne (tgt := 11) hx hb dJx4a65c_add_72be8_3 (by decide) (fun _ => ?_) (fun cz => absurd cz (by decide))
  refine lv_aload_n hx hb dJx4a65c_add_72be8_11 rfl (lv_at hl 2 rfl) ?_
  refine lv_iload_n hx hb dJx4a65c_add_72be8_12 rfl (lv_at hl 3 rfl) ?_
  refine lv_aload_n hx hb dJx4a65c_add_72be8_13 rfl (lv_at hl 1 rfl) ?_
  refine vb_astq (E := "java/lang/Object") (C := "java/lang/Integer") hx hb hK hP hD (va_Sre hS) 1 0 rfl rfl (va_Orecv (hX.2.2.1.1.1 130 (by decide)) hS) (vb_asgC (hT.2.1.1 ("java/lang/Integer", "java/lang/Object") (by decide))) (i := 2) (by unfold vp_in; decide) dJx4a65c_add_72be8_14 (fun H1 _ hP hD hS' => ?_)
  have hG : s.heap.size + 0 ≤ H1.size := Nat.le_trans hG hS'.1
  have hS := va_Str hS hS'
  have hP : va_P (dC, dI) xCl [(h0, ce162 h1), (h1, ce163 kc0 (z.2.2.1 128) (z.2.2.1 129) (z.2.2.1 130))] H1 := hP
  have hD := vd_as hP hD rfl
  refine lv_aload_n hx hb dJx4a65c_add_72be8_15 rfl (lv_at hl 0 rfl) ?_
  refine lv_iload_n hx hb dJx4a65c_add_72be8_16 rfl (lv_at hl 3 rfl) ?_
  refine lv_iconst (v := 1) hx hb dJx4a65c_add_72be8_17 (by decide) ?_
  refine lv_iadd hx hb dJx4a65c_add_72be8_18 ?_
  refine lv_topi (fun y2 ey2 => ?_)
  obtain rfl : y2 = 3 := ey2.trans (by decide)
  refine va_put (D := (dC, dI)) (ci := 0) (v := .int 3) (ty := .int) (C := RJx4a65c) (T := TJx4a65c) (N := 3) hx hb hts in_Jx4a65c tyJx4a65c tyJx4a65c_ok nmJx4a65c hown hK hP hD (va_Sre hS) 0 rfl rfl 2 (by decide) (hts _ q_74) (fun _ h9 => h9) rfl (by decide +kernel) rfl rfl (Nat.le_of_ble_eq_true rfl) dJx4a65c_add_72be8_19 (fun H3 _ hP hD hS' => ?_)
  have hG : s.heap.size + 0 ≤ H3.size := Nat.le_trans hG hS'.1
  have hS := va_Str hS hS'
  have hP : va_P (dC, dI) xCl [(h0, ce164 h1), (h1, ce163 kc0 (z.2.2.1 128) (z.2.2.1 129) (z.2.2.1 130))] H3 := hP
  have hD := vd_as hP hD rfl
  have ehu4 : (va_up (va_up (va_up (va_up (fun _ => none) 0 (some (z.2.2.1 128))) 1 (some (z.2.2.1 129))) 2 none) 2 (some (z.2.2.1 130))) = (va_up (va_up (va_up (fun _ => none) 0 (some (z.2.2.1 128))) 1 (some (z.2.2.1 129))) 2 (some (z.2.2.1 130))) := by funext j; by_cases g0 : j = 0; (subst g0; rfl); by_cases g1 : j = 1; (subst g1; rfl); by_cases g2 : j = 2; (subst g2; rfl); simp only [va_up, g0, g1, g2, if_false]
  have hu4 : (ce163 kc0 (z.2.2.1 128) (z.2.2.1 129) (z.2.2.1 130) : va_E) = ce101 kc0 (z.2.2.1 128) (z.2.2.1 129) (z.2.2.1 130) := (show (.inl (kc0, 10, .inr (.inr (.inr (.inr (va_up (va_up (va_up (va_up (fun _ => none) 0 (some (z.2.2.1 128))) 1 (some (z.2.2.1 129))) 2 none) 2 (some (z.2.2.1 130))))))) : va_E) = .inl (kc0, 10, .inr (.inr (.inr (.inr (va_up (va_up (va_up (fun _ => none) 0 (some (z.2.2.1 128))) 1 (some (z.2.2.1 129))) 2 (some (z.2.2.1 130))))))) by rw [ehu4])
  rw [hu4] at hP hD
  have hP : va_P (dC, dI) xCl [(h0, ce164 h1), (h1, ce101 kc0 (z.2.2.1 128) (z.2.2.1 129) (z.2.2.1 130))] H3 := hP
  have hD := vd_as hP hD rfl
  exact W.vret hx hb hr (fun t9 ht9 hW9 => ⟨⟨(), rfl, trivial, ⟨pq_mk2 hP hD hK [0, 1] [0] rfl rfl rfl ht9 hW9, by rw [ht9]; exact Nat.le_trans (Nat.add_le_add_left (Nat.le_of_ble_eq_true rfl) _) hG⟩⟩, hS.F ht9⟩) hS.2.2 dJx4a65c_add_72be8_22

set_option maxHeartbeats 4000000 in
set_option maxRecDepth 100000 in
theorem k316_add (l : Launch) (hl9 : l.stackTraces = false) (dC : Nat → ClassId) (dI : Nat → Nat → Nat) (z : XZ) (h0 h1 : Nat) (sz : Nat) (kc0 : ClassId) : Met l yJx4a65c_add_9ea2d (.code yJx4a65c_add_9ea2d cJx4a65c_add_9ea2d 2 (some .boolean) :: wsL_law) ({ frames := 1, cells := 0, slots := 0, locals := 23 }) (va_Pc [.ref h0, .ref (z.2.2.1 130)] (PC (dC, dI) [(h0, ce160 h1), (h1, ce161 kc0 (z.2.2.1 128) (z.2.2.1 129))] [(kc0, .object "java/lang/Object")] sz z)) (va_Qi (fun (r : Int32) (_ : Unit) => r = 1) (fun (_ : Unit) (t : State) => PG (dC, dI) [(h0, ce164 h1), (h1, ce101 kc0 (z.2.2.1 128) (z.2.2.1 129) (z.2.2.1 130))] [(kc0, .object "java/lang/Object")] (va_A [(h0, ce160 h1), (h1, ce161 kc0 (z.2.2.1 128) (z.2.2.1 129))] sz) sz 0 t) (va_A [(h0, ce160 h1), (h1, ce161 kc0 (z.2.2.1 128) (z.2.2.1 129))] sz)) 0 0 (va_A [(h0, ce160 h1), (h1, ce161 kc0 (z.2.2.1 128) (z.2.2.1 129))] sz) := by
  refine Met.ofW (cc := cJx4a65c_add_9ea2d) (maxL := 2) (ret := (some .boolean)) (by decide) rfl ?_
  intro p e s m args below meth c s₁ B hml hv
  obtain ⟨rfl, hsz, hP, hK, hD0, hX, hT⟩ := hv
  have hx := B.exec
  have hb := B.bytes
  have hr := B.returns
  have hts0 := atoms_spec (ws := .code yJx4a65c_add_9ea2d cJx4a65c_add_9ea2d 2 (some .boolean) :: wsL_law) B.pre
  have hts := xTail hts0
  have hown : s.vm.findClass RJx4a65c = some m.cls := xown B.named rfl
  have hlocks := B.notSynchronized
  subst hsz
  have hD := hD0.self (sz := s.heap.size)
  generalize hAe : va_A [(h0, ce160 h1), (h1, ce161 kc0 (z.2.2.1 128) (z.2.2.1 129))] s.heap.size = A at hD hX ⊢
  have hA : ∀ q : Nat, s.heap.size ≤ q → A q := fun q h => by rw [← hAe]; exact Or.inr h
  have hS : va_S A s.heap s.heap [] := va_S.rf
  have hG : s.heap.size + 0 ≤ s.heap.size := Nat.le_refl _
  have hl := lv_entry ([.ref h0, .ref (z.2.2.1 130)]) (n := 2) (Nat.le_of_ble_eq_true rfl)
  rw [lg_entry_eq]
  generalize (lg_sl ([.ref h0, .ref (z.2.2.1 130)]) ++ List.replicate (2 - (lg_sl ([.ref h0, .ref (z.2.2.1 130)])).length) Slot.unset).toArray = ls at hl ⊢
  have hl : lv_has ls 2 [(0, .ref h0), (1, .ref (z.2.2.1 130))] := hl
  refine lv_aload_n hx hb dJx4a65c_add_9ea2d_0 rfl (lv_at hl 0 rfl) ?_
  refine lv_dup hx hb dJx4a65c_add_9ea2d_1 rfl ?_
  refine va_get (D := (dC, dI)) (ci := 0) (v := .int 12) (C := RJx4a65c) (T := TJx4a65c) (N := 3) hx hb hts in_Jx4a65c hown hK hP 0 rfl rfl 0 (by decide) (hts _ q_108) (u_same (hts _ q_107)) rfl dJx4a65c_add_9ea2d_2 ?_
  refine lv_iconst (v := 1) hx hb dJx4a65c_add_9ea2d_5 (by decide) ?_
  refine lv_iadd hx hb dJx4a65c_add_9ea2d_6 ?_
  refine lv_topi (fun y1 ey1 => ?_)
  obtain rfl : y1 = 13 := ey1.trans (by decide)
  refine va_put (D := (dC, dI)) (ci := 0) (v := .int 13) (ty := .int) (C := RJx4a65c) (T := TJx4a65c) (N := 3) hx hb hts in_Jx4a65c tyJx4a65c tyJx4a65c_ok nmJx4a65c hown hK hP hD (va_Sre hS) 0 rfl rfl 0 (by decide) (hts _ q_108) (u_same (hts _ q_107)) rfl (by decide +kernel) rfl rfl (Nat.le_of_ble_eq_true rfl) dJx4a65c_add_9ea2d_7 (fun H2 _ hP hD hS' => ?_)
  have hG : s.heap.size + 0 ≤ H2.size := Nat.le_trans hG hS'.1
  have hS := va_Str hS hS'
  have hP : va_P (dC, dI) xCl [(h0, ce162 h1), (h1, ce161 kc0 (z.2.2.1 128) (z.2.2.1 129))] H2 := hP
  have hD := vd_as hP hD rfl
  refine lv_aload_n hx hb dJx4a65c_add_9ea2d_10 rfl (lv_at hl 0 rfl) ?_
  refine lv_aload_n hx hb dJx4a65c_add_9ea2d_11 rfl (lv_at hl 1 rfl) ?_
  refine lv_aload_n hx hb dJx4a65c_add_9ea2d_12 rfl (lv_at hl 0 rfl) ?_
  refine va_get (D := (dC, dI)) (ci := 0) (v := .ref h1) (C := RJx4a65c) (T := TJx4a65c) (N := 3) hx hb hts in_Jx4a65c hown hK hP 0 rfl rfl 1 (by decide) (hts _ q_24) (fun _ h9 => h9) rfl dJx4a65c_add_9ea2d_13 ?_
  refine lv_aload_n hx hb dJx4a65c_add_9ea2d_16 rfl (lv_at hl 0 rfl) ?_
  refine va_get (D := (dC, dI)) (ci := 0) (v := .int 2) (C := RJx4a65c) (T := TJx4a65c) (N := 3) hx hb hts in_Jx4a65c hown hK hP 0 rfl rfl 2 (by decide) (hts _ q_74) (fun _ h9 => h9) rfl dJx4a65c_add_9ea2d_17 ?_
  have hM5 := k315_add l hl9 dC dI z h0 h1 H2.size kc0
  obtain ⟨hF3, hC6⟩ := pc_M hM5 hP hD hK hS hX hT hA [0, 1] [0] rfl rfl rfl
  refine va_callv (va_runV (As := [.ref (z.2.2.1 130), .ref h1, .int 2]) (rest := []) ⟨hx, hb, hml, hown, hts⟩ hM5 (cwV 3 hts (gV q_123 q_124 q_125 q_12 q_122) rfl rfl rfl hV_Jx4a65c_add_72be8 ⟨Nat.le_of_ble_eq_true rfl, Nat.le_of_ble_eq_true rfl⟩) ⟨pc_blind, va_recv hK hP (ci := 0) (q := (RJx4a65c, TJx4a65c, 3)) (q0 := 0) rfl rfl, fun U hU hW => ⟨rfl, hC6 U hU hW⟩⟩ rfl rfl hl.1 rfl (lv_room (Nat.le_of_ble_eq_true rfl)) dJx4a65c_add_9ea2d_20 ⟨(Nat.le_of_ble_eq_true rfl), (Nat.le_of_ble_eq_true rfl)⟩) hS (fun q9 _ h9 => hF3 q9 h9) hF3 (fun u7 t7 H7 L7 ht7 hvm7 hw7 hB7 hz7 hk7 hS => ?_)
  obtain ⟨hP, hD, hK⟩ := pq_jn (wz := [(h0, ce164 h1), (h1, ce101 kc0 (z.2.2.1 128) (z.2.2.1 129) (z.2.2.1 130))]) (tz := [(kc0, .object "java/lang/Object")]) hP hD hK [0, 1] [] rfl hk7 hF3 hB7.1 ht7 hvm7 rfl rfl
  have hG : s.heap.size + 0 ≤ H7.size := Nat.le_trans hG hz7
  refine lv_iconst (v := 1) hx hb dJx4a65c_add_9ea2d_23 (by decide) ?_
  exact W.zret (v := 1) (ty := .boolean) hx hb hr rfl (fun t9 ht9 hW9 => ⟨⟨1, (), rfl, rfl, ⟨pq_mk2 hP hD hK [0, 1] [0] rfl rfl rfl ht9 hW9, by rw [ht9]; exact Nat.le_trans (Nat.add_le_add_left (Nat.le_of_ble_eq_true rfl) _) hG⟩⟩, hS.F ht9⟩) hS.2.2 dJx4a65c_add_9ea2d_24

set_option maxHeartbeats 4000000 in
set_option maxRecDepth 100000 in
theorem k317_valueOf (l : Launch) (hl9 : l.stackTraces = false) (dC : Nat → ClassId) (dI : Nat → Nat → Nat) (z : XZ) (sz : Nat) : Met l yJ6_valueOf_2dffe (.code yJ6_valueOf_2dffe cJ6_valueOf_2dffe 1 (some (.object "java/lang/Integer")) :: wsL_law) ({ frames := 0, cells := 0, slots := 0, locals := 0 }) (va_Pc [.int 3] (PC (dC, dI) [] [] sz z)) (va_Qr (fun (_ : Unit) => True) (fun (_ : Unit) (ra : Nat) (t : State) => ra = (z.2.2.1 131) ∧ PG (dC, dI) [] [] (va_A [] sz) sz 0 t) (va_A [] sz)) 0 0 (va_A [] sz) := by
  refine Met.ofW (cc := cJ6_valueOf_2dffe) (maxL := 1) (ret := (some (.object "java/lang/Integer"))) (by decide) rfl ?_
  intro p e s m args below meth c s₁ B hml hv
  obtain ⟨rfl, hsz, hP, hK, hD0, hX, hT⟩ := hv
  have hx := B.exec
  have hb := B.bytes
  have hr := B.returns
  have hts0 := atoms_spec (ws := .code yJ6_valueOf_2dffe cJ6_valueOf_2dffe 1 (some (.object "java/lang/Integer")) :: wsL_law) B.pre
  have hts := xTail hts0
  have hown : s.vm.findClass RJ6 = some m.cls := xown B.named rfl
  have hlocks := B.notSynchronized
  subst hsz
  have hD := hD0.self (sz := s.heap.size)
  generalize hAe : va_A [] s.heap.size = A at hD hX ⊢
  have hA : ∀ q : Nat, s.heap.size ≤ q → A q := fun q h => by rw [← hAe]; exact Or.inr h
  have hS : va_S A s.heap s.heap [] := va_S.rf
  have hG : s.heap.size + 0 ≤ s.heap.size := Nat.le_refl _
  have hl := lv_entry ([.int 3]) (n := 1) (Nat.le_of_ble_eq_true rfl)
  rw [lg_entry_eq]
  generalize (lg_sl ([.int 3]) ++ List.replicate (1 - (lg_sl ([.int 3])).length) Slot.unset).toArray = ls at hl ⊢
  have hl : lv_has ls 1 [(0, .int 3)] := hl
  refine lv_iload_n hx hb dJ6_valueOf_2dffe_0 rfl (lv_at hl 0 rfl) ?_
  refine lv_bipush (v := (-128)) hx hb dJ6_valueOf_2dffe_1 (by decide) ?_
  refine lv_icmp_lt (tgt := 23) hx hb dJ6_valueOf_2dffe_3 (by decide) (fun cz => absurd cz (by decide)) (fun _ => ?_)
  refine lv_iload_n hx hb dJ6_valueOf_2dffe_6 rfl (lv_at hl 0 rfl) ?_
  refine va_gets (own := RJ6) (ref := "java/lang/Integer$IntegerCache") hx hb hX.2.2.1.2.1 hS hown (hts _ q_292) (fun _ h9 => h9) dJ6_valueOf_2dffe_7 ?_
  refine lv_icmp_gt (tgt := 23) hx hb dJ6_valueOf_2dffe_10 (by decide) (fun cz => absurd cz (by decide)) (fun _ => ?_)
  refine va_gets (own := RJ6) (ref := "java/lang/Integer$IntegerCache") hx hb hX.2.2.1.2.2.1 hS hown (hts _ q_293) (fun _ h9 => h9) dJ6_valueOf_2dffe_13 ?_
  refine lv_iload_n hx hb dJ6_valueOf_2dffe_16 rfl (lv_at hl 0 rfl) ?_
  refine lv_sipush (v := 128) hx hb dJ6_valueOf_2dffe_17 (by decide) ?_
  refine lv_iadd hx hb dJ6_valueOf_2dffe_20 ?_
  refine lv_topi (fun y1 ey1 => ?_)
  obtain rfl : y1 = 131 := ey1.trans (by decide)
  refine vb_tq hx hb hX.2.2.1.2.2.2 hS (i := 131) (by unfold vp_in; decide) (v := .ref (z.2.2.1 131)) rfl dJ6_valueOf_2dffe_21 ?_
  exact W.aret (v := .ref (z.2.2.1 131)) hx hb hr (by first | exact Or.inl ⟨_, rfl⟩ | exact Or.inr ⟨_, rfl⟩) (Or.inr ⟨_, rfl⟩) (fun t9 ht9 hW9 => ⟨⟨(), (z.2.2.1 131), rfl, trivial, ⟨rfl, ⟨pq_mk2 hP hD hK [] [] rfl rfl rfl ht9 hW9, by rw [ht9]; exact Nat.le_trans (Nat.add_le_add_left (Nat.le_of_ble_eq_true rfl) _) hG⟩⟩⟩, hS.F ht9⟩) hS.2.2 dJ6_valueOf_2dffe_22

set_option maxHeartbeats 4000000 in
set_option maxRecDepth 100000 in
theorem k318_add (l : Launch) (hl9 : l.stackTraces = false) (dC : Nat → ClassId) (dI : Nat → Nat → Nat) (z : XZ) (h0 h1 : Nat) (sz : Nat) (kc0 : ClassId) : Met l yJx4a65c_add_72be8 (.code yJx4a65c_add_72be8 cJx4a65c_add_72be8 4 none :: wsL_law) ({ frames := 0, cells := 0, slots := 0, locals := 0 }) (va_Pc [.ref h0, .ref (z.2.2.1 131), .ref h1, .int 3] (PC (dC, dI) [(h0, ce166 h1), (h1, ce101 kc0 (z.2.2.1 128) (z.2.2.1 129) (z.2.2.1 130))] [(kc0, .object "java/lang/Object")] sz z)) (va_Qv (fun (_ : Unit) => True) (fun (_ : Unit) (t : State) => PG (dC, dI) [(h0, ce167 h1), (h1, ce146 kc0 (z.2.2.1 128) (z.2.2.1 129) (z.2.2.1 130) (z.2.2.1 131))] [(kc0, .object "java/lang/Object")] (va_A [(h0, ce166 h1), (h1, ce101 kc0 (z.2.2.1 128) (z.2.2.1 129) (z.2.2.1 130))] sz) sz 0 t) (va_A [(h0, ce166 h1), (h1, ce101 kc0 (z.2.2.1 128) (z.2.2.1 129) (z.2.2.1 130))] sz)) 0 0 (va_A [(h0, ce166 h1), (h1, ce101 kc0 (z.2.2.1 128) (z.2.2.1 129) (z.2.2.1 130))] sz) := by
  refine Met.ofW (cc := cJx4a65c_add_72be8) (maxL := 4) (ret := none) (by decide) rfl ?_
  intro p e s m args below meth c s₁ B hml hv
  obtain ⟨rfl, hsz, hP, hK, hD0, hX, hT⟩ := hv
  have hx := B.exec
  have hb := B.bytes
  have hr := B.returns
  have hts0 := atoms_spec (ws := .code yJx4a65c_add_72be8 cJx4a65c_add_72be8 4 none :: wsL_law) B.pre
  have hts := xTail hts0
  have hown : s.vm.findClass RJx4a65c = some m.cls := xown B.named rfl
  have hlocks := B.notSynchronized
  subst hsz
  have hD := hD0.self (sz := s.heap.size)
  generalize hAe : va_A [(h0, ce166 h1), (h1, ce101 kc0 (z.2.2.1 128) (z.2.2.1 129) (z.2.2.1 130))] s.heap.size = A at hD hX ⊢
  have hA : ∀ q : Nat, s.heap.size ≤ q → A q := fun q h => by rw [← hAe]; exact Or.inr h
  have hS : va_S A s.heap s.heap [] := va_S.rf
  have hG : s.heap.size + 0 ≤ s.heap.size := Nat.le_refl _
  have hl := lv_entry ([.ref h0, .ref (z.2.2.1 131), .ref h1, .int 3]) (n := 4) (Nat.le_of_ble_eq_true rfl)
  rw [lg_entry_eq]
  generalize (lg_sl ([.ref h0, .ref (z.2.2.1 131), .ref h1, .int 3]) ++ List.replicate (4 - (lg_sl ([.ref h0, .ref (z.2.2.1 131), .ref h1, .int 3])).length) Slot.unset).toArray = ls at hl ⊢
  have hl : lv_has ls 4 [(0, .ref h0), (1, .ref (z.2.2.1 131)), (2, .ref h1), (3, .int 3)] := hl
  refine lv_iload_n hx hb dJx4a65c_add_72be8_0 rfl (lv_at hl 3 rfl) ?_
  refine lv_aload_n hx hb dJx4a65c_add_72be8_1 rfl (lv_at hl 2 rfl) ?_
  refine va_alen hx hb hK hP 1 0 rfl rfl (v := 10) rfl dJx4a65c_add_72be8_2 ?_
  refine lv_icmp_ne (tgt := 11) hx hb dJx4a65c_add_72be8_3 (by decide) (fun _ => ?_) (fun cz => absurd cz (by decide))
  refine lv_aload_n hx hb dJx4a65c_add_72be8_11 rfl (lv_at hl 2 rfl) ?_
  refine lv_iload_n hx hb dJx4a65c_add_72be8_12 rfl (lv_at hl 3 rfl) ?_
  refine lv_aload_n hx hb dJx4a65c_add_72be8_13 rfl (lv_at hl 1 rfl) ?_
  refine vb_astq (E := "java/lang/Object") (C := "java/lang/Integer") hx hb hK hP hD (va_Sre hS) 1 0 rfl rfl (va_Orecv (hX.2.2.1.1.1 131 (by decide)) hS) (vb_asgC (hT.2.1.1 ("java/lang/Integer", "java/lang/Object") (by decide))) (i := 3) (by unfold vp_in; decide) dJx4a65c_add_72be8_14 (fun H1 _ hP hD hS' => ?_)
  have hG : s.heap.size + 0 ≤ H1.size := Nat.le_trans hG hS'.1
  have hS := va_Str hS hS'
  have hP : va_P (dC, dI) xCl [(h0, ce166 h1), (h1, ce146 kc0 (z.2.2.1 128) (z.2.2.1 129) (z.2.2.1 130) (z.2.2.1 131))] H1 := hP
  have hD := vd_as hP hD rfl
  refine lv_aload_n hx hb dJx4a65c_add_72be8_15 rfl (lv_at hl 0 rfl) ?_
  refine lv_iload_n hx hb dJx4a65c_add_72be8_16 rfl (lv_at hl 3 rfl) ?_
  refine lv_iconst (v := 1) hx hb dJx4a65c_add_72be8_17 (by decide) ?_
  refine lv_iadd hx hb dJx4a65c_add_72be8_18 ?_
  refine lv_topi (fun y2 ey2 => ?_)
  obtain rfl : y2 = 4 := ey2.trans (by decide)
  refine va_put (D := (dC, dI)) (ci := 0) (v := .int 4) (ty := .int) (C := RJx4a65c) (T := TJx4a65c) (N := 3) hx hb hts in_Jx4a65c tyJx4a65c tyJx4a65c_ok nmJx4a65c hown hK hP hD (va_Sre hS) 0 rfl rfl 2 (by decide) (hts _ q_74) (fun _ h9 => h9) rfl (by decide +kernel) rfl rfl (Nat.le_of_ble_eq_true rfl) dJx4a65c_add_72be8_19 (fun H3 _ hP hD hS' => ?_)
  have hG : s.heap.size + 0 ≤ H3.size := Nat.le_trans hG hS'.1
  have hS := va_Str hS hS'
  have hP : va_P (dC, dI) xCl [(h0, ce167 h1), (h1, ce146 kc0 (z.2.2.1 128) (z.2.2.1 129) (z.2.2.1 130) (z.2.2.1 131))] H3 := hP
  have hD := vd_as hP hD rfl
  exact W.vret hx hb hr (fun t9 ht9 hW9 => ⟨⟨(), rfl, trivial, ⟨pq_mk2 hP hD hK [0, 1] [0] rfl rfl rfl ht9 hW9, by rw [ht9]; exact Nat.le_trans (Nat.add_le_add_left (Nat.le_of_ble_eq_true rfl) _) hG⟩⟩, hS.F ht9⟩) hS.2.2 dJx4a65c_add_72be8_22

set_option maxHeartbeats 4000000 in
set_option maxRecDepth 100000 in
theorem k319_add (l : Launch) (hl9 : l.stackTraces = false) (dC : Nat → ClassId) (dI : Nat → Nat → Nat) (z : XZ) (h0 h1 : Nat) (sz : Nat) (kc0 : ClassId) : Met l yJx4a65c_add_9ea2d (.code yJx4a65c_add_9ea2d cJx4a65c_add_9ea2d 2 (some .boolean) :: wsL_law) ({ frames := 1, cells := 0, slots := 0, locals := 23 }) (va_Pc [.ref h0, .ref (z.2.2.1 131)] (PC (dC, dI) [(h0, ce164 h1), (h1, ce101 kc0 (z.2.2.1 128) (z.2.2.1 129) (z.2.2.1 130))] [(kc0, .object "java/lang/Object")] sz z)) (va_Qi (fun (r : Int32) (_ : Unit) => r = 1) (fun (_ : Unit) (t : State) => PG (dC, dI) [(h0, ce167 h1), (h1, ce146 kc0 (z.2.2.1 128) (z.2.2.1 129) (z.2.2.1 130) (z.2.2.1 131))] [(kc0, .object "java/lang/Object")] (va_A [(h0, ce164 h1), (h1, ce101 kc0 (z.2.2.1 128) (z.2.2.1 129) (z.2.2.1 130))] sz) sz 0 t) (va_A [(h0, ce164 h1), (h1, ce101 kc0 (z.2.2.1 128) (z.2.2.1 129) (z.2.2.1 130))] sz)) 0 0 (va_A [(h0, ce164 h1), (h1, ce101 kc0 (z.2.2.1 128) (z.2.2.1 129) (z.2.2.1 130))] sz) := by
  refine Met.ofW (cc := cJx4a65c_add_9ea2d) (maxL := 2) (ret := (some .boolean)) (by decide) rfl ?_
  intro p e s m args below meth c s₁ B hml hv
  obtain ⟨rfl, hsz, hP, hK, hD0, hX, hT⟩ := hv
  have hx := B.exec
  have hb := B.bytes
  have hr := B.returns
  have hts0 := atoms_spec (ws := .code yJx4a65c_add_9ea2d cJx4a65c_add_9ea2d 2 (some .boolean) :: wsL_law) B.pre
  have hts := xTail hts0
  have hown : s.vm.findClass RJx4a65c = some m.cls := xown B.named rfl
  have hlocks := B.notSynchronized
  subst hsz
  have hD := hD0.self (sz := s.heap.size)
  generalize hAe : va_A [(h0, ce164 h1), (h1, ce101 kc0 (z.2.2.1 128) (z.2.2.1 129) (z.2.2.1 130))] s.heap.size = A at hD hX ⊢
  have hA : ∀ q : Nat, s.heap.size ≤ q → A q := fun q h => by rw [← hAe]; exact Or.inr h
  have hS : va_S A s.heap s.heap [] := va_S.rf
  have hG : s.heap.size + 0 ≤ s.heap.size := Nat.le_refl _
  have hl := lv_entry ([.ref h0, .ref (z.2.2.1 131)]) (n := 2) (Nat.le_of_ble_eq_true rfl)
  rw [lg_entry_eq]
  generalize (lg_sl ([.ref h0, .ref (z.2.2.1 131)]) ++ List.replicate (2 - (lg_sl ([.ref h0, .ref (z.2.2.1 131)])).length) Slot.unset).toArray = ls at hl ⊢
  have hl : lv_has ls 2 [(0, .ref h0), (1, .ref (z.2.2.1 131))] := hl
  refine lv_aload_n hx hb dJx4a65c_add_9ea2d_0 rfl (lv_at hl 0 rfl) ?_
  refine lv_dup hx hb dJx4a65c_add_9ea2d_1 rfl ?_
  refine va_get (D := (dC, dI)) (ci := 0) (v := .int 13) (C := RJx4a65c) (T := TJx4a65c) (N := 3) hx hb hts in_Jx4a65c hown hK hP 0 rfl rfl 0 (by decide) (hts _ q_108) (u_same (hts _ q_107)) rfl dJx4a65c_add_9ea2d_2 ?_
  refine lv_iconst (v := 1) hx hb dJx4a65c_add_9ea2d_5 (by decide) ?_
  refine lv_iadd hx hb dJx4a65c_add_9ea2d_6 ?_
  refine lv_topi (fun y1 ey1 => ?_)
  obtain rfl : y1 = 14 := ey1.trans (by decide)
  refine va_put (D := (dC, dI)) (ci := 0) (v := .int 14) (ty := .int) (C := RJx4a65c) (T := TJx4a65c) (N := 3) hx hb hts in_Jx4a65c tyJx4a65c tyJx4a65c_ok nmJx4a65c hown hK hP hD (va_Sre hS) 0 rfl rfl 0 (by decide) (hts _ q_108) (u_same (hts _ q_107)) rfl (by decide +kernel) rfl rfl (Nat.le_of_ble_eq_true rfl) dJx4a65c_add_9ea2d_7 (fun H2 _ hP hD hS' => ?_)
  have hG : s.heap.size + 0 ≤ H2.size := Nat.le_trans hG hS'.1
  have hS := va_Str hS hS'
  have hP : va_P (dC, dI) xCl [(h0, ce166 h1), (h1, ce101 kc0 (z.2.2.1 128) (z.2.2.1 129) (z.2.2.1 130))] H2 := hP
  have hD := vd_as hP hD rfl
  refine lv_aload_n hx hb dJx4a65c_add_9ea2d_10 rfl (lv_at hl 0 rfl) ?_
  refine lv_aload_n hx hb dJx4a65c_add_9ea2d_11 rfl (lv_at hl 1 rfl) ?_
  refine lv_aload_n hx hb dJx4a65c_add_9ea2d_12 rfl (lv_at hl 0 rfl) ?_
  refine va_get (D := (dC, dI)) (ci := 0) (v := .ref h1) (C := RJx4a65c) (T := TJx4a65c) (N := 3) hx hb hts in_Jx4a65c hown hK hP 0 rfl rfl 1 (by decide) (hts _ q_24) (fun _ h9 => h9) rfl dJx4a65c_add_9ea2d_13 ?_
  refine lv_aload_n hx hb dJx4a65c_add_9ea2d_16 rfl (lv_at hl 0 rfl) ?_
  refine va_get (D := (dC, dI)) (ci := 0) (v := .int 3) (C := RJx4a65c) (T := TJx4a65c) (N := 3) hx hb hts in_Jx4a65c hown hK hP 0 rfl rfl 2 (by decide) (hts _ q_74) (fun _ h9 => h9) rfl dJx4a65c_add_9ea2d_17 ?_
  have hM5 := k318_add l hl9 dC dI z h0 h1 H2.size kc0
  obtain ⟨hF3, hC6⟩ := pc_M hM5 hP hD hK hS hX hT hA [0, 1] [0] rfl rfl rfl
  refine va_callv (va_runV (As := [.ref (z.2.2.1 131), .ref h1, .int 3]) (rest := []) ⟨hx, hb, hml, hown, hts⟩ hM5 (cwV 3 hts (gV q_123 q_124 q_125 q_12 q_122) rfl rfl rfl hV_Jx4a65c_add_72be8 ⟨Nat.le_of_ble_eq_true rfl, Nat.le_of_ble_eq_true rfl⟩) ⟨pc_blind, va_recv hK hP (ci := 0) (q := (RJx4a65c, TJx4a65c, 3)) (q0 := 0) rfl rfl, fun U hU hW => ⟨rfl, hC6 U hU hW⟩⟩ rfl rfl hl.1 rfl (lv_room (Nat.le_of_ble_eq_true rfl)) dJx4a65c_add_9ea2d_20 ⟨(Nat.le_of_ble_eq_true rfl), (Nat.le_of_ble_eq_true rfl)⟩) hS (fun q9 _ h9 => hF3 q9 h9) hF3 (fun u7 t7 H7 L7 ht7 hvm7 hw7 hB7 hz7 hk7 hS => ?_)
  obtain ⟨hP, hD, hK⟩ := pq_jn (wz := [(h0, ce167 h1), (h1, ce146 kc0 (z.2.2.1 128) (z.2.2.1 129) (z.2.2.1 130) (z.2.2.1 131))]) (tz := [(kc0, .object "java/lang/Object")]) hP hD hK [0, 1] [] rfl hk7 hF3 hB7.1 ht7 hvm7 rfl rfl
  have hG : s.heap.size + 0 ≤ H7.size := Nat.le_trans hG hz7
  refine lv_iconst (v := 1) hx hb dJx4a65c_add_9ea2d_23 (by decide) ?_
  exact W.zret (v := 1) (ty := .boolean) hx hb hr rfl (fun t9 ht9 hW9 => ⟨⟨1, (), rfl, rfl, ⟨pq_mk2 hP hD hK [0, 1] [0] rfl rfl rfl ht9 hW9, by rw [ht9]; exact Nat.le_trans (Nat.add_le_add_left (Nat.le_of_ble_eq_true rfl) _) hG⟩⟩, hS.F ht9⟩) hS.2.2 dJx4a65c_add_9ea2d_24

set_option maxHeartbeats 4000000 in
set_option maxRecDepth 100000 in
theorem k320_putInOrder (l : Launch) (hl9 : l.stackTraces = false) (dC : Nat → ClassId) (dI : Nat → Nat → Nat) (z : XZ) (h0 h1 h2 h3 h4 : Nat) (o0 o1 : Nat) (sz : Nat) (kc0 : ClassId) : Met l yX9_putInOrder (.code yX9_putInOrder cX9_putInOrder 6 none :: wsL_law) ({ frames := 3, cells := 5, slots := 56, locals := 57 }) (va_Pc [.ref h0] (PC (dC, dI) [(h0, ce21 h1 h2 o0 h3), (h1, ce147 o1), (h2, ce3 z.1), (h3, ce117 h4), (h4, ce101 kc0 (z.2.2.1 128) (z.2.2.1 129) (z.2.2.1 130))] [(kc0, .object "java/lang/Object")] sz z)) (va_Qv (fun (_ : Unit) => True) (fun (_ : Unit) (t : State) => PG (dC, dI) [(h0, ce21 h1 h2 o0 h3), (h1, ce147 o1), (h2, ce3 z.1), (h3, ce167 h4), (h4, ce146 kc0 (z.2.2.1 128) (z.2.2.1 129) (z.2.2.1 130) (z.2.2.1 131))] [(kc0, .object "java/lang/Object")] (va_A [(h0, ce21 h1 h2 o0 h3), (h1, ce147 o1), (h2, ce3 z.1), (h3, ce117 h4), (h4, ce101 kc0 (z.2.2.1 128) (z.2.2.1 129) (z.2.2.1 130))] sz) sz 5 t) (va_A [(h0, ce21 h1 h2 o0 h3), (h1, ce147 o1), (h2, ce3 z.1), (h3, ce117 h4), (h4, ce101 kc0 (z.2.2.1 128) (z.2.2.1 129) (z.2.2.1 130))] sz)) 5 56 (va_A [(h0, ce21 h1 h2 o0 h3), (h1, ce147 o1), (h2, ce3 z.1), (h3, ce117 h4), (h4, ce101 kc0 (z.2.2.1 128) (z.2.2.1 129) (z.2.2.1 130))] sz) := by
  refine Met.ofW (cc := cX9_putInOrder) (maxL := 6) (ret := none) (by decide) rfl ?_
  intro p e s m args below meth c s₁ B hml hv
  obtain ⟨rfl, hsz, hP, hK, hD0, hX, hT⟩ := hv
  have hx := B.exec
  have hb := B.bytes
  have hr := B.returns
  have hts0 := atoms_spec (ws := .code yX9_putInOrder cX9_putInOrder 6 none :: wsL_law) B.pre
  have hts := xTail hts0
  have hown : s.vm.findClass RX9 = some m.cls := xown B.named rfl
  have hlocks := B.notSynchronized
  subst hsz
  have hD := hD0.self (sz := s.heap.size)
  generalize hAe : va_A [(h0, ce21 h1 h2 o0 h3), (h1, ce147 o1), (h2, ce3 z.1), (h3, ce117 h4), (h4, ce101 kc0 (z.2.2.1 128) (z.2.2.1 129) (z.2.2.1 130))] s.heap.size = A at hD hX ⊢
  have hA : ∀ q : Nat, s.heap.size ≤ q → A q := fun q h => by rw [← hAe]; exact Or.inr h
  have hS : va_S A s.heap s.heap [] := va_S.rf
  have hG : s.heap.size + 0 ≤ s.heap.size := Nat.le_refl _
  have hl := lv_entry ([.ref h0]) (n := 6) (Nat.le_of_ble_eq_true rfl)
  rw [lg_entry_eq]
  generalize (lg_sl ([.ref h0]) ++ List.replicate (6 - (lg_sl ([.ref h0])).length) Slot.unset).toArray = ls at hl ⊢
  have hl : lv_has ls 6 [(0, .ref h0)] := hl
  refine lv_bipush (v := 40) hx hb dX9_putInOrder_0 (by decide) ?_
  refine xa_newa (atype := .boolean) hx hb (hts _ q_290) rfl hK hP hD hS hA (n := 40) (N' := 40) (a0 := (40, .inl (fun _ => 0))) (fun _ => rfl) (by decide) (by decide) (Nat.le_of_ble_eq_true rfl) (Nat.le_of_ble_eq_true rfl) (Nat.le_of_ble_eq_true rfl) dX9_putInOrder_2 (fun a1 k2 H3 hg8 hK hP hD hS => ?_)
  have hG : s.heap.size + 1 ≤ H3.size := by rw [hg8]; exact Nat.succ_le_succ hG
  have hK : va_K (dC, dI) xCl [(kc0, .object "java/lang/Object"), (k2, .boolean)] s := hK
  have hP : va_P (dC, dI) xCl [(h0, ce21 h1 h2 o0 h3), (h1, ce147 o1), (h2, ce3 z.1), (h3, ce117 h4), (h4, ce101 kc0 (z.2.2.1 128) (z.2.2.1 129) (z.2.2.1 130)), (a1, ce51 k2)] H3 := hP
  have hD := vd_as hP hD rfl
  refine W.widen (k := 1) (n := 40) (by decide) (by decide) ?_
  refine lv_astore_n (lv' := [(1, .ref a1), (0, .ref h0)]) hx hb dX9_putInOrder_4 rfl hl (by decide) rfl (fun ls hl => ?_)
  refine lv_aload_n hx hb dX9_putInOrder_5 rfl (lv_at hl 1 rfl) ?_
  refine va_get (D := (dC, dI)) (ci := 8) (v := .ref h3) (C := RX9) (T := TX9) (N := 6) hx hb hts in_X9 hown hK hP 0 rfl rfl 4 (by decide) (hts _ q_67) (fun _ h9 => h9) rfl dX9_putInOrder_6 ?_
  have hM6 := k310_clear l hl9 dC dI z h3 h4 H3.size kc0
  obtain ⟨hF4, hC7⟩ := pc_M hM6 hP hD hK hS hX hT hA [3, 4] [0] rfl rfl rfl
  refine va_callv (va_runV (As := []) (rest := []) ⟨hx, hb, hml, hown, hts⟩ hM6 (cwV 0 hts (gV q_291 q_141 q_142 q_12 q_139) rfl rfl rfl hV_Jx4a65c_clear_da8c8 ⟨Nat.le_of_ble_eq_true rfl, Nat.le_of_ble_eq_true rfl⟩) ⟨pc_blind, va_recv hK hP (ci := 0) (q := (RJx4a65c, TJx4a65c, 3)) (q0 := 3) rfl rfl, fun U hU hW => ⟨rfl, hC7 U hU hW⟩⟩ rfl rfl hl.1 rfl (lv_room (Nat.le_of_ble_eq_true rfl)) dX9_putInOrder_9 ⟨(Nat.le_of_ble_eq_true rfl), (Nat.le_of_ble_eq_true rfl)⟩) hS (fun q9 _ h9 => hF4 q9 h9) hF4 (fun u8 t8 H8 L8 ht8 hvm8 hw8 hB8 hz8 hk8 hS => ?_)
  obtain ⟨hP, hD, hK⟩ := pq_jn (wz := [(h0, ce21 h1 h2 o0 h3), (h1, ce147 o1), (h2, ce3 z.1), (a1, ce51 k2), (h3, ce149 h4), (h4, ce153 kc0)]) (tz := [(k2, .boolean), (kc0, .object "java/lang/Object")]) hP hD hK [3, 4] [1] rfl hk8 hF4 hB8.1 ht8 hvm8 rfl rfl
  have hG : s.heap.size + 1 ≤ H8.size := Nat.le_trans hG hz8
  refine lv_aload_n hx hb dX9_putInOrder_12 rfl (lv_at hl 1 rfl) ?_
  refine va_get (D := (dC, dI)) (ci := 8) (v := .ref h3) (C := RX9) (T := TX9) (N := 6) hx hb hts in_X9 hown hK hP 0 rfl rfl 4 (by decide) (hts _ q_67) (fun _ h9 => h9) rfl dX9_putInOrder_13 ?_
  have hM12 := k20_size l hl9 dC dI z h3 h4 H8.size 10 0
  obtain ⟨hF10, hC13⟩ := pc_M hM12 hP hD hK hS hX hT hA [4] [] rfl rfl rfl
  refine va_calli (va_runV (As := []) (rest := []) ⟨hx, hb, hml, hown, hts⟩ hM12 (cwV 0 hts (gV q_272 q_77 q_78 q_12 q_75) rfl rfl rfl hV_Jx4a65c_size_8abf5 ⟨Nat.le_of_ble_eq_true rfl, Nat.le_of_ble_eq_true rfl⟩) ⟨pc_blind, va_recv hK hP (ci := 0) (q := (RJx4a65c, TJx4a65c, 3)) (q0 := 4) rfl rfl, fun U hU hW => ⟨rfl, hC13 U hU hW⟩⟩ rfl rfl hl.1 rfl (lv_room (Nat.le_of_ble_eq_true rfl)) dX9_putInOrder_16 ⟨(Nat.le_of_ble_eq_true rfl), (Nat.le_of_ble_eq_true rfl)⟩) hS (fun q9 _ h9 => hF10 q9 h9) hF10 (fun r15 u14 t14 H14 L14 ht14 hvm14 hw14 hB14 hz14 hk14 hS => ?_)
  have hP := pq_keep hP hD [4] rfl hk14 hB14.1 ht14
  have hG : s.heap.size + 1 ≤ H14.size := Nat.le_trans hG hz14
  refine W.eq (g2 := F0 m 19 ls [.int 0]) (by rw [hw14]) ?_
  refine lv_aload_n hx hb dX9_putInOrder_19 rfl (lv_at hl 1 rfl) ?_
  refine va_get (D := (dC, dI)) (ci := 8) (v := .ref h1) (C := RX9) (T := TX9) (N := 6) hx hb hts in_X9 hown hK hP 0 rfl rfl 1 (by decide) (hts _ q_64) (fun _ h9 => h9) rfl dX9_putInOrder_20 ?_
  have hM18 := k20_size l hl9 dC dI z h1 o1 H14.size 4 4
  obtain ⟨hF16, hC19⟩ := pc_M hM18 hP hD hK hS hX hT hA [1] [] rfl rfl rfl
  refine va_calli (va_runV (As := []) (rest := [.int 0]) ⟨hx, hb, hml, hown, hts⟩ hM18 (cwV 0 hts (gV q_272 q_77 q_78 q_12 q_75) rfl rfl rfl hV_Jx4a65c_size_8abf5 ⟨Nat.le_of_ble_eq_true rfl, Nat.le_of_ble_eq_true rfl⟩) ⟨pc_blind, va_recv hK hP (ci := 0) (q := (RJx4a65c, TJx4a65c, 3)) (q0 := 1) rfl rfl, fun U hU hW => ⟨rfl, hC19 U hU hW⟩⟩ rfl rfl hl.1 rfl (lv_room (Nat.le_of_ble_eq_true rfl)) dX9_putInOrder_23 ⟨(Nat.le_of_ble_eq_true rfl), (Nat.le_of_ble_eq_true rfl)⟩) hS (fun q9 _ h9 => hF16 q9 h9) hF16 (fun r21 u20 t20 H20 L20 ht20 hvm20 hw20 hB20 hz20 hk20 hS => ?_)
  have hP := pq_keep hP hD [1] rfl hk20 hB20.1 ht20
  have hG : s.heap.size + 1 ≤ H20.size := Nat.le_trans hG hz20
  refine W.eq (g2 := F0 m 26 ls [.int 4, .int 0]) (by rw [hw20]) ?_
  refine lv_icmp_ge (tgt := 165) hx hb dX9_putInOrder_26 (by decide) (fun cz => absurd cz (by decide)) (fun _ => ?_)
  refine lv_iconst (v := 0) hx hb dX9_putInOrder_29 (by decide) ?_
  refine lv_istore_n (lv' := [(2, .int 0), (1, .ref a1), (0, .ref h0)]) hx hb dX9_putInOrder_30 rfl hl (by decide) rfl (fun ls hl => ?_)
  refine lv_iload_n hx hb dX9_putInOrder_31 rfl (lv_at hl 0 rfl) ?_
  refine lv_aload_n hx hb dX9_putInOrder_32 rfl (lv_at hl 2 rfl) ?_
  refine va_get (D := (dC, dI)) (ci := 8) (v := .ref h1) (C := RX9) (T := TX9) (N := 6) hx hb hts in_X9 hown hK hP 0 rfl rfl 1 (by decide) (hts _ q_64) (fun _ h9 => h9) rfl dX9_putInOrder_33 ?_
  have hM24 := k20_size l hl9 dC dI z h1 o1 H20.size 4 4
  obtain ⟨hF22, hC25⟩ := pc_M hM24 hP hD hK hS hX hT hA [1] [] rfl rfl rfl
  refine va_calli (va_runV (As := []) (rest := [.int 0]) ⟨hx, hb, hml, hown, hts⟩ hM24 (cwV 0 hts (gV q_272 q_77 q_78 q_12 q_75) rfl rfl rfl hV_Jx4a65c_size_8abf5 ⟨Nat.le_of_ble_eq_true rfl, Nat.le_of_ble_eq_true rfl⟩) ⟨pc_blind, va_recv hK hP (ci := 0) (q := (RJx4a65c, TJx4a65c, 3)) (q0 := 1) rfl rfl, fun U hU hW => ⟨rfl, hC25 U hU hW⟩⟩ rfl rfl hl.1 rfl (lv_room (Nat.le_of_ble_eq_true rfl)) dX9_putInOrder_36 ⟨(Nat.le_of_ble_eq_true rfl), (Nat.le_of_ble_eq_true rfl)⟩) hS (fun q9 _ h9 => hF22 q9 h9) hF22 (fun r27 u26 t26 H26 L26 ht26 hvm26 hw26 hB26 hz26 hk26 hS => ?_)
  have hP := pq_keep hP hD [1] rfl hk26 hB26.1 ht26
  have hG : s.heap.size + 1 ≤ H26.size := Nat.le_trans hG hz26
  refine W.eq (g2 := F0 m 39 ls [.int 4, .int 0]) (by rw [hw26]) ?_
  refine lv_icmp_ge (tgt := 162) hx hb dX9_putInOrder_39 (by decide) (fun cz => absurd cz (by decide)) (fun _ => ?_)
  refine lv_aload_n hx hb dX9_putInOrder_42 rfl (lv_at hl 1 rfl) ?_
  refine lv_iload_n hx hb dX9_putInOrder_43 rfl (lv_at hl 0 rfl) ?_
  refine va_zald hx hb hK hP 3 0 rfl rfl (i := 0) (by unfold vp_in; decide) dX9_putInOrder_44 ?_
  refine W.eq (g2 := F0 m 45 ls [.int 0]) rfl ?_
  refine lv_if_ne (tgt := 52) hx hb dX9_putInOrder_45 (by decide) (fun cz => absurd (by decide) cz) (fun _ => ?_)
  refine lv_iconst (v := 1) hx hb dX9_putInOrder_48 (by decide) ?_
  refine lv_goto (tgt := 53) hx hb dX9_putInOrder_49 (by decide) ?_
  refine lv_istore_n (lv' := [(3, .int 1), (2, .int 0), (1, .ref a1), (0, .ref h0)]) hx hb dX9_putInOrder_53 rfl hl (by decide) rfl (fun ls hl => ?_)
  refine lv_aload_n hx hb dX9_putInOrder_54 rfl (lv_at hl 3 rfl) ?_
  refine va_get (D := (dC, dI)) (ci := 8) (v := .ref h2) (C := RX9) (T := TX9) (N := 6) hx hb hts in_X9 hown hK hP 0 rfl rfl 2 (by decide) (hts _ q_65) (fun _ h9 => h9) rfl dX9_putInOrder_55 ?_
  have hM30 := k49_iterator l hl9 dC dI z h2 H26.size
  obtain ⟨hF28, hC31⟩ := pc_M hM30 hP hD hK hS hX hT hA [2] [] rfl rfl rfl
  refine va_callr (va_runV (As := []) (rest := []) ⟨hx, hb, hml, hown, hts⟩ hM30 (cwV 0 hts (gV q_256 q_257 q_258 q_12 q_255) rfl rfl rfl hV_Jx4a65c_iterator_32c93 ⟨Nat.le_of_ble_eq_true rfl, Nat.le_of_ble_eq_true rfl⟩) ⟨pc_blind, va_recv hK hP (ci := 0) (q := (RJx4a65c, TJx4a65c, 3)) (q0 := 2) rfl rfl, fun U hU hW => ⟨rfl, hC31 U hU hW⟩⟩ rfl rfl hl.1 rfl (lv_room (Nat.le_of_ble_eq_true rfl)) dX9_putInOrder_58 ⟨(Nat.le_of_ble_eq_true rfl), (Nat.le_of_ble_eq_true rfl)⟩) hS (fun q9 _ h9 => hF28 q9 h9) hF28 (fun u32 r33 t32 H32 L32 ht32 hvm32 hw32 hB32 hz32 hk32 hS => ?_)
  obtain ⟨a34, hr32, hB32⟩ := hB32
  obtain ⟨hP, hD, hK⟩ := pq_jn (wz := [(h0, ce21 h1 h2 o0 h3), (h1, ce147 o1), (a1, ce51 k2), (h3, ce149 h4), (h4, ce153 kc0), (h2, ce3 z.1), (a34, ce44 h2)]) (tz := [(k2, .boolean), (kc0, .object "java/lang/Object")]) hP hD hK [2] [0, 1] rfl hk32 hF28 hB32.1 ht32 hvm32 rfl rfl
  have hG : s.heap.size + 2 ≤ H32.size := va_gr (g := 1) (g1 := 1) hG (by rw [← ht32]; exact hB32.2)
  refine W.eq (g2 := F0 m 61 ls [.ref a34]) (by rw [hr32]) ?_
  refine W.widen (k := 2) (n := 44) (by decide) (by decide) ?_
  refine lv_astore (lv' := [(4, .ref a34), (3, .int 1), (2, .int 0), (1, .ref a1), (0, .ref h0)]) hx hb dX9_putInOrder_61 hl (by decide) rfl (fun ls hl => ?_)
  refine lv_aload hx hb dX9_putInOrder_63 (lv_at hl 0 rfl) ?_
  have hM37 := k50_hasNext l hl9 dC dI z a34 h2 H32.size
  obtain ⟨hF35, hC38⟩ := pc_M hM37 hP hD hK hS hX hT hA [6, 5] [] rfl rfl rfl
  refine va_callFi (va_runF (As := []) (rest := []) (hK.1 1 (RJx35411, TJx35411, 4) rfl).2 ⟨hx, hb, hml, hown, hts⟩ hM37 (va_cwF 0 hts (gF q_261 q_262 q_263 q_246 q_260) rfl rfl rfl hT.2.2.2.2.2.2.1 hF_xIh ⟨Nat.le_of_ble_eq_true rfl, Nat.le_of_ble_eq_true rfl⟩) ⟨pc_blind, va_recv hK hP (ci := 1) (q := (RJx35411, TJx35411, 4)) (q0 := 6) rfl rfl, fun U hU hW => ⟨rfl, hC38 U hU hW⟩⟩ rfl rfl hl.1 rfl (lv_room (Nat.le_of_ble_eq_true rfl)) dX9_putInOrder_65 ⟨(Nat.le_of_ble_eq_true rfl), (Nat.le_of_ble_eq_true rfl)⟩) hS (fun q9 _ h9 => hF35 q9 h9) hF35 (fun r40 u39 t39 H39 L39 ht39 hvm39 hw39 hB39 hz39 hk39 hS => ?_)
  have hP := pq_keep hP hD [6, 5] rfl hk39 hB39.1 ht39
  have hG : s.heap.size + 2 ≤ H39.size := Nat.le_trans hG hz39
  refine W.eq (g2 := F0 m 70 ls [.int 0]) (by rw [hw39]) ?_
  refine lv_if_eq (tgt := 136) hx hb dX9_putInOrder_70 (by decide) (fun _ => ?_) (fun cz => absurd (by decide) cz)
  refine lv_iload_n hx hb dX9_putInOrder_136 rfl (lv_at hl 1 rfl) ?_
  refine lv_if_eq (tgt := 156) hx hb dX9_putInOrder_137 (by decide) (fun cz => absurd cz (by decide)) (fun _ => ?_)
  refine lv_aload_n hx hb dX9_putInOrder_140 rfl (lv_at hl 3 rfl) ?_
  refine lv_iload_n hx hb dX9_putInOrder_141 rfl (lv_at hl 2 rfl) ?_
  refine lv_iconst (v := 1) hx hb dX9_putInOrder_142 (by decide) ?_
  refine va_zast hx hb hK hP hD (va_Sre hS) 2 0 rfl rfl (i := 0) (by unfold vp_in; decide) dX9_putInOrder_143 (fun H41 _ hP hD hS' => ?_)
  have hG : s.heap.size + 2 ≤ H41.size := Nat.le_trans hG hS'.1
  have hS := va_Str hS hS'
  have hP : va_P (dC, dI) xCl [(h0, ce21 h1 h2 o0 h3), (h1, ce147 o1), (a1, ce52 k2), (h3, ce149 h4), (h4, ce153 kc0), (h2, ce3 z.1), (a34, ce44 h2)] H41 := hP
  have hD := vd_as hP hD rfl
  refine lv_aload_n hx hb dX9_putInOrder_144 rfl (lv_at hl 4 rfl) ?_
  refine va_get (D := (dC, dI)) (ci := 8) (v := .ref h3) (C := RX9) (T := TX9) (N := 6) hx hb hts in_X9 hown hK hP 0 rfl rfl 4 (by decide) (hts _ q_67) (fun _ h9 => h9) rfl dX9_putInOrder_145 ?_
  refine lv_iload_n hx hb dX9_putInOrder_148 rfl (lv_at hl 2 rfl) ?_
  have hM44 := k58_valueOf l hl9 dC dI z H41.size
  obtain ⟨hF42, hC45⟩ := pc_M hM44 hP hD hK hS hX hT hA [] [] rfl rfl rfl
  refine va_callr (va_runS (As := [.int 0]) (rest := [.ref h3]) ⟨hx, hb, hml, hown, hts⟩ hM44 (va_cwS 1 hts (gS q_295 q_296 q_297 q_294) rfl rfl rfl hS_J6_valueOf_2dffe ⟨Nat.le_of_ble_eq_true rfl, Nat.le_of_ble_eq_true rfl⟩) ⟨pc_blind, fun U hU hW => ⟨rfl, hC45 U hU hW⟩⟩ rfl rfl hl.1 rfl (lv_room (Nat.le_of_ble_eq_true rfl)) dX9_putInOrder_149 ⟨(Nat.le_of_ble_eq_true rfl), (Nat.le_of_ble_eq_true rfl)⟩) hS (fun q9 _ h9 => hF42 q9 h9) hF42 (fun u46 r47 t46 H46 L46 ht46 hvm46 hw46 hB46 hz46 hk46 hS => ?_)
  obtain ⟨hr46, hB46⟩ := hB46
  have hP := pq_keep hP hD [] rfl hk46 hB46.1 ht46
  have hG : s.heap.size + 2 ≤ H46.size := Nat.le_trans hG hz46
  refine W.eq (g2 := F0 m 152 ls [.ref (z.2.2.1 128), .ref h3]) (by rw [hr46]) ?_
  have hM50 := k312_add l hl9 dC dI z h3 h4 H46.size kc0
  obtain ⟨hF48, hC51⟩ := pc_M hM50 hP hD hK hS hX hT hA [3, 4] [1] rfl rfl rfl
  refine va_calli (va_runV (As := [.ref (z.2.2.1 128)]) (rest := []) ⟨hx, hb, hml, hown, hts⟩ hM50 (cwV 1 hts (gV q_284 q_128 q_129 q_12 q_126) rfl rfl rfl hV_Jx4a65c_add_9ea2d ⟨Nat.le_of_ble_eq_true rfl, Nat.le_of_ble_eq_true rfl⟩) ⟨pc_blind, va_recv hK hP (ci := 0) (q := (RJx4a65c, TJx4a65c, 3)) (q0 := 3) rfl rfl, fun U hU hW => ⟨rfl, hC51 U hU hW⟩⟩ rfl rfl hl.1 rfl (lv_room (Nat.le_of_ble_eq_true rfl)) dX9_putInOrder_152 ⟨(Nat.le_of_ble_eq_true rfl), (Nat.le_of_ble_eq_true rfl)⟩) hS (fun q9 _ h9 => hF48 q9 h9) hF48 (fun r53 u52 t52 H52 L52 ht52 hvm52 hw52 hB52 hz52 hk52 hS => ?_)
  obtain ⟨hP, hD, hK⟩ := pq_jn (wz := [(h0, ce21 h1 h2 o0 h3), (h1, ce147 o1), (a1, ce52 k2), (h2, ce3 z.1), (a34, ce44 h2), (h3, ce156 h4), (h4, ce157 kc0 (z.2.2.1 128))]) (tz := [(k2, .boolean), (kc0, .object "java/lang/Object")]) hP hD hK [3, 4] [0] rfl hk52 hF48 hB52.1 ht52 hvm52 rfl rfl
  have hG : s.heap.size + 2 ≤ H52.size := Nat.le_trans hG hz52
  refine W.eq (g2 := F0 m 155 ls [.int 1]) (by rw [hw52]) ?_
  refine lv_pop hx hb dX9_putInOrder_155 rfl ?_
  refine lv_iinc (v := 1) (lv' := [(2, .int 1), (4, .ref a34), (3, .int 1), (1, .ref a1), (0, .ref h0)]) hx hb dX9_putInOrder_156 hl (k := 2) rfl (by decide) (by decide) rfl (fun ls hl => ?_)
  refine lv_goto (tgt := 31) hx hb dX9_putInOrder_159 (by decide) ?_
  refine lv_iload_n hx hb dX9_putInOrder_31 rfl (lv_at hl 0 rfl) ?_
  refine lv_aload_n hx hb dX9_putInOrder_32 rfl (lv_at hl 4 rfl) ?_
  refine va_get (D := (dC, dI)) (ci := 8) (v := .ref h1) (C := RX9) (T := TX9) (N := 6) hx hb hts in_X9 hown hK hP 0 rfl rfl 1 (by decide) (hts _ q_64) (fun _ h9 => h9) rfl dX9_putInOrder_33 ?_
  have hM56 := k20_size l hl9 dC dI z h1 o1 H52.size 4 4
  obtain ⟨hF54, hC57⟩ := pc_M hM56 hP hD hK hS hX hT hA [1] [] rfl rfl rfl
  refine va_calli (va_runV (As := []) (rest := [.int 1]) ⟨hx, hb, hml, hown, hts⟩ hM56 (cwV 0 hts (gV q_272 q_77 q_78 q_12 q_75) rfl rfl rfl hV_Jx4a65c_size_8abf5 ⟨Nat.le_of_ble_eq_true rfl, Nat.le_of_ble_eq_true rfl⟩) ⟨pc_blind, va_recv hK hP (ci := 0) (q := (RJx4a65c, TJx4a65c, 3)) (q0 := 1) rfl rfl, fun U hU hW => ⟨rfl, hC57 U hU hW⟩⟩ rfl rfl hl.1 rfl (lv_room (Nat.le_of_ble_eq_true rfl)) dX9_putInOrder_36 ⟨(Nat.le_of_ble_eq_true rfl), (Nat.le_of_ble_eq_true rfl)⟩) hS (fun q9 _ h9 => hF54 q9 h9) hF54 (fun r59 u58 t58 H58 L58 ht58 hvm58 hw58 hB58 hz58 hk58 hS => ?_)
  have hP := pq_keep hP hD [1] rfl hk58 hB58.1 ht58
  have hG : s.heap.size + 2 ≤ H58.size := Nat.le_trans hG hz58
  refine W.eq (g2 := F0 m 39 ls [.int 4, .int 1]) (by rw [hw58]) ?_
  refine lv_icmp_ge (tgt := 162) hx hb dX9_putInOrder_39 (by decide) (fun cz => absurd cz (by decide)) (fun _ => ?_)
  refine lv_aload_n hx hb dX9_putInOrder_42 rfl (lv_at hl 3 rfl) ?_
  refine lv_iload_n hx hb dX9_putInOrder_43 rfl (lv_at hl 0 rfl) ?_
  refine va_zald hx hb hK hP 2 0 rfl rfl (i := 1) (by unfold vp_in; decide) dX9_putInOrder_44 ?_
  refine W.eq (g2 := F0 m 45 ls [.int 0]) rfl ?_
  refine lv_if_ne (tgt := 52) hx hb dX9_putInOrder_45 (by decide) (fun cz => absurd (by decide) cz) (fun _ => ?_)
  refine lv_iconst (v := 1) hx hb dX9_putInOrder_48 (by decide) ?_
  refine lv_goto (tgt := 53) hx hb dX9_putInOrder_49 (by decide) ?_
  refine lv_istore_n (lv' := [(3, .int 1), (2, .int 1), (4, .ref a34), (1, .ref a1), (0, .ref h0)]) hx hb dX9_putInOrder_53 rfl hl (by decide) rfl (fun ls hl => ?_)
  refine lv_aload_n hx hb dX9_putInOrder_54 rfl (lv_at hl 4 rfl) ?_
  refine va_get (D := (dC, dI)) (ci := 8) (v := .ref h2) (C := RX9) (T := TX9) (N := 6) hx hb hts in_X9 hown hK hP 0 rfl rfl 2 (by decide) (hts _ q_65) (fun _ h9 => h9) rfl dX9_putInOrder_55 ?_
  have hM62 := k49_iterator l hl9 dC dI z h2 H58.size
  obtain ⟨hF60, hC63⟩ := pc_M hM62 hP hD hK hS hX hT hA [3] [] rfl rfl rfl
  refine va_callr (va_runV (As := []) (rest := []) ⟨hx, hb, hml, hown, hts⟩ hM62 (cwV 0 hts (gV q_256 q_257 q_258 q_12 q_255) rfl rfl rfl hV_Jx4a65c_iterator_32c93 ⟨Nat.le_of_ble_eq_true rfl, Nat.le_of_ble_eq_true rfl⟩) ⟨pc_blind, va_recv hK hP (ci := 0) (q := (RJx4a65c, TJx4a65c, 3)) (q0 := 3) rfl rfl, fun U hU hW => ⟨rfl, hC63 U hU hW⟩⟩ rfl rfl hl.1 rfl (lv_room (Nat.le_of_ble_eq_true rfl)) dX9_putInOrder_58 ⟨(Nat.le_of_ble_eq_true rfl), (Nat.le_of_ble_eq_true rfl)⟩) hS (fun q9 _ h9 => hF60 q9 h9) hF60 (fun u64 r65 t64 H64 L64 ht64 hvm64 hw64 hB64 hz64 hk64 hS => ?_)
  obtain ⟨a66, hr64, hB64⟩ := hB64
  obtain ⟨hP, hD, hK⟩ := pq_jn (wz := [(h0, ce21 h1 h2 o0 h3), (h1, ce147 o1), (a1, ce52 k2), (a34, ce44 h2), (h3, ce156 h4), (h4, ce157 kc0 (z.2.2.1 128)), (h2, ce3 z.1), (a66, ce44 h2)]) (tz := [(k2, .boolean), (kc0, .object "java/lang/Object")]) hP hD hK [3] [0, 1] rfl hk64 hF60 hB64.1 ht64 hvm64 rfl rfl
  have hG : s.heap.size + 3 ≤ H64.size := va_gr (g := 2) (g1 := 1) hG (by rw [← ht64]; exact hB64.2)
  refine W.eq (g2 := F0 m 61 ls [.ref a66]) (by rw [hr64]) ?_
  refine W.widen (k := 3) (n := 48) (by decide) (by decide) ?_
  refine lv_astore (lv' := [(4, .ref a66), (3, .int 1), (2, .int 1), (1, .ref a1), (0, .ref h0)]) hx hb dX9_putInOrder_61 hl (by decide) rfl (fun ls hl => ?_)
  refine lv_aload hx hb dX9_putInOrder_63 (lv_at hl 0 rfl) ?_
  have hM69 := k50_hasNext l hl9 dC dI z a66 h2 H64.size
  obtain ⟨hF67, hC70⟩ := pc_M hM69 hP hD hK hS hX hT hA [7, 6] [] rfl rfl rfl
  refine va_callFi (va_runF (As := []) (rest := []) (hK.1 1 (RJx35411, TJx35411, 4) rfl).2 ⟨hx, hb, hml, hown, hts⟩ hM69 (va_cwF 0 hts (gF q_261 q_262 q_263 q_246 q_260) rfl rfl rfl hT.2.2.2.2.2.2.1 hF_xIh ⟨Nat.le_of_ble_eq_true rfl, Nat.le_of_ble_eq_true rfl⟩) ⟨pc_blind, va_recv hK hP (ci := 1) (q := (RJx35411, TJx35411, 4)) (q0 := 7) rfl rfl, fun U hU hW => ⟨rfl, hC70 U hU hW⟩⟩ rfl rfl hl.1 rfl (lv_room (Nat.le_of_ble_eq_true rfl)) dX9_putInOrder_65 ⟨(Nat.le_of_ble_eq_true rfl), (Nat.le_of_ble_eq_true rfl)⟩) hS (fun q9 _ h9 => hF67 q9 h9) hF67 (fun r72 u71 t71 H71 L71 ht71 hvm71 hw71 hB71 hz71 hk71 hS => ?_)
  have hP := pq_keep hP hD [7, 6] rfl hk71 hB71.1 ht71
  have hG : s.heap.size + 3 ≤ H71.size := Nat.le_trans hG hz71
  refine W.eq (g2 := F0 m 70 ls [.int 0]) (by rw [hw71]) ?_
  refine lv_if_eq (tgt := 136) hx hb dX9_putInOrder_70 (by decide) (fun _ => ?_) (fun cz => absurd (by decide) cz)
  refine lv_iload_n hx hb dX9_putInOrder_136 rfl (lv_at hl 1 rfl) ?_
  refine lv_if_eq (tgt := 156) hx hb dX9_putInOrder_137 (by decide) (fun cz => absurd cz (by decide)) (fun _ => ?_)
  refine lv_aload_n hx hb dX9_putInOrder_140 rfl (lv_at hl 3 rfl) ?_
  refine lv_iload_n hx hb dX9_putInOrder_141 rfl (lv_at hl 2 rfl) ?_
  refine lv_iconst (v := 1) hx hb dX9_putInOrder_142 (by decide) ?_
  refine va_zast hx hb hK hP hD (va_Sre hS) 2 0 rfl rfl (i := 1) (by unfold vp_in; decide) dX9_putInOrder_143 (fun H73 _ hP hD hS' => ?_)
  have hG : s.heap.size + 3 ≤ H73.size := Nat.le_trans hG hS'.1
  have hS := va_Str hS hS'
  have hP : va_P (dC, dI) xCl [(h0, ce21 h1 h2 o0 h3), (h1, ce147 o1), (a1, ce82 k2), (a34, ce44 h2), (h3, ce156 h4), (h4, ce157 kc0 (z.2.2.1 128)), (h2, ce3 z.1), (a66, ce44 h2)] H73 := hP
  have hD := vd_as hP hD rfl
  refine lv_aload_n hx hb dX9_putInOrder_144 rfl (lv_at hl 4 rfl) ?_
  refine va_get (D := (dC, dI)) (ci := 8) (v := .ref h3) (C := RX9) (T := TX9) (N := 6) hx hb hts in_X9 hown hK hP 0 rfl rfl 4 (by decide) (hts _ q_67) (fun _ h9 => h9) rfl dX9_putInOrder_145 ?_
  refine lv_iload_n hx hb dX9_putInOrder_148 rfl (lv_at hl 2 rfl) ?_
  have hM76 := k129_valueOf l hl9 dC dI z H73.size
  obtain ⟨hF74, hC77⟩ := pc_M hM76 hP hD hK hS hX hT hA [] [] rfl rfl rfl
  refine va_callr (va_runS (As := [.int 1]) (rest := [.ref h3]) ⟨hx, hb, hml, hown, hts⟩ hM76 (va_cwS 1 hts (gS q_295 q_296 q_297 q_294) rfl rfl rfl hS_J6_valueOf_2dffe ⟨Nat.le_of_ble_eq_true rfl, Nat.le_of_ble_eq_true rfl⟩) ⟨pc_blind, fun U hU hW => ⟨rfl, hC77 U hU hW⟩⟩ rfl rfl hl.1 rfl (lv_room (Nat.le_of_ble_eq_true rfl)) dX9_putInOrder_149 ⟨(Nat.le_of_ble_eq_true rfl), (Nat.le_of_ble_eq_true rfl)⟩) hS (fun q9 _ h9 => hF74 q9 h9) hF74 (fun u78 r79 t78 H78 L78 ht78 hvm78 hw78 hB78 hz78 hk78 hS => ?_)
  obtain ⟨hr78, hB78⟩ := hB78
  have hP := pq_keep hP hD [] rfl hk78 hB78.1 ht78
  have hG : s.heap.size + 3 ≤ H78.size := Nat.le_trans hG hz78
  refine W.eq (g2 := F0 m 152 ls [.ref (z.2.2.1 129), .ref h3]) (by rw [hr78]) ?_
  have hM82 := k314_add l hl9 dC dI z h3 h4 H78.size kc0
  obtain ⟨hF80, hC83⟩ := pc_M hM82 hP hD hK hS hX hT hA [4, 5] [1] rfl rfl rfl
  refine va_calli (va_runV (As := [.ref (z.2.2.1 129)]) (rest := []) ⟨hx, hb, hml, hown, hts⟩ hM82 (cwV 1 hts (gV q_284 q_128 q_129 q_12 q_126) rfl rfl rfl hV_Jx4a65c_add_9ea2d ⟨Nat.le_of_ble_eq_true rfl, Nat.le_of_ble_eq_true rfl⟩) ⟨pc_blind, va_recv hK hP (ci := 0) (q := (RJx4a65c, TJx4a65c, 3)) (q0 := 4) rfl rfl, fun U hU hW => ⟨rfl, hC83 U hU hW⟩⟩ rfl rfl hl.1 rfl (lv_room (Nat.le_of_ble_eq_true rfl)) dX9_putInOrder_152 ⟨(Nat.le_of_ble_eq_true rfl), (Nat.le_of_ble_eq_true rfl)⟩) hS (fun q9 _ h9 => hF80 q9 h9) hF80 (fun r85 u84 t84 H84 L84 ht84 hvm84 hw84 hB84 hz84 hk84 hS => ?_)
  obtain ⟨hP, hD, hK⟩ := pq_jn (wz := [(h0, ce21 h1 h2 o0 h3), (h1, ce147 o1), (a1, ce82 k2), (a34, ce44 h2), (h2, ce3 z.1), (a66, ce44 h2), (h3, ce160 h4), (h4, ce161 kc0 (z.2.2.1 128) (z.2.2.1 129))]) (tz := [(k2, .boolean), (kc0, .object "java/lang/Object")]) hP hD hK [4, 5] [0] rfl hk84 hF80 hB84.1 ht84 hvm84 rfl rfl
  have hG : s.heap.size + 3 ≤ H84.size := Nat.le_trans hG hz84
  refine W.eq (g2 := F0 m 155 ls [.int 1]) (by rw [hw84]) ?_
  refine lv_pop hx hb dX9_putInOrder_155 rfl ?_
  refine lv_iinc (v := 2) (lv' := [(2, .int 2), (4, .ref a66), (3, .int 1), (1, .ref a1), (0, .ref h0)]) hx hb dX9_putInOrder_156 hl (k := 2) rfl (by decide) (by decide) rfl (fun ls hl => ?_)
  refine lv_goto (tgt := 31) hx hb dX9_putInOrder_159 (by decide) ?_
  refine lv_iload_n hx hb dX9_putInOrder_31 rfl (lv_at hl 0 rfl) ?_
  refine lv_aload_n hx hb dX9_putInOrder_32 rfl (lv_at hl 4 rfl) ?_
  refine va_get (D := (dC, dI)) (ci := 8) (v := .ref h1) (C := RX9) (T := TX9) (N := 6) hx hb hts in_X9 hown hK hP 0 rfl rfl 1 (by decide) (hts _ q_64) (fun _ h9 => h9) rfl dX9_putInOrder_33 ?_
  have hM88 := k20_size l hl9 dC dI z h1 o1 H84.size 4 4
  obtain ⟨hF86, hC89⟩ := pc_M hM88 hP hD hK hS hX hT hA [1] [] rfl rfl rfl
  refine va_calli (va_runV (As := []) (rest := [.int 2]) ⟨hx, hb, hml, hown, hts⟩ hM88 (cwV 0 hts (gV q_272 q_77 q_78 q_12 q_75) rfl rfl rfl hV_Jx4a65c_size_8abf5 ⟨Nat.le_of_ble_eq_true rfl, Nat.le_of_ble_eq_true rfl⟩) ⟨pc_blind, va_recv hK hP (ci := 0) (q := (RJx4a65c, TJx4a65c, 3)) (q0 := 1) rfl rfl, fun U hU hW => ⟨rfl, hC89 U hU hW⟩⟩ rfl rfl hl.1 rfl (lv_room (Nat.le_of_ble_eq_true rfl)) dX9_putInOrder_36 ⟨(Nat.le_of_ble_eq_true rfl), (Nat.le_of_ble_eq_true rfl)⟩) hS (fun q9 _ h9 => hF86 q9 h9) hF86 (fun r91 u90 t90 H90 L90 ht90 hvm90 hw90 hB90 hz90 hk90 hS => ?_)
  have hP := pq_keep hP hD [1] rfl hk90 hB90.1 ht90
  have hG : s.heap.size + 3 ≤ H90.size := Nat.le_trans hG hz90
  refine W.eq (g2 := F0 m 39 ls [.int 4, .int 2]) (by rw [hw90]) ?_
  refine lv_icmp_ge (tgt := 162) hx hb dX9_putInOrder_39 (by decide) (fun cz => absurd cz (by decide)) (fun _ => ?_)
  refine lv_aload_n hx hb dX9_putInOrder_42 rfl (lv_at hl 3 rfl) ?_
  refine lv_iload_n hx hb dX9_putInOrder_43 rfl (lv_at hl 0 rfl) ?_
  refine va_zald hx hb hK hP 2 0 rfl rfl (i := 2) (by unfold vp_in; decide) dX9_putInOrder_44 ?_
  refine W.eq (g2 := F0 m 45 ls [.int 0]) rfl ?_
  refine lv_if_ne (tgt := 52) hx hb dX9_putInOrder_45 (by decide) (fun cz => absurd (by decide) cz) (fun _ => ?_)
  refine lv_iconst (v := 1) hx hb dX9_putInOrder_48 (by decide) ?_
  refine lv_goto (tgt := 53) hx hb dX9_putInOrder_49 (by decide) ?_
  refine lv_istore_n (lv' := [(3, .int 1), (2, .int 2), (4, .ref a66), (1, .ref a1), (0, .ref h0)]) hx hb dX9_putInOrder_53 rfl hl (by decide) rfl (fun ls hl => ?_)
  refine lv_aload_n hx hb dX9_putInOrder_54 rfl (lv_at hl 4 rfl) ?_
  refine va_get (D := (dC, dI)) (ci := 8) (v := .ref h2) (C := RX9) (T := TX9) (N := 6) hx hb hts in_X9 hown hK hP 0 rfl rfl 2 (by decide) (hts _ q_65) (fun _ h9 => h9) rfl dX9_putInOrder_55 ?_
  have hM94 := k49_iterator l hl9 dC dI z h2 H90.size
  obtain ⟨hF92, hC95⟩ := pc_M hM94 hP hD hK hS hX hT hA [4] [] rfl rfl rfl
  refine va_callr (va_runV (As := []) (rest := []) ⟨hx, hb, hml, hown, hts⟩ hM94 (cwV 0 hts (gV q_256 q_257 q_258 q_12 q_255) rfl rfl rfl hV_Jx4a65c_iterator_32c93 ⟨Nat.le_of_ble_eq_true rfl, Nat.le_of_ble_eq_true rfl⟩) ⟨pc_blind, va_recv hK hP (ci := 0) (q := (RJx4a65c, TJx4a65c, 3)) (q0 := 4) rfl rfl, fun U hU hW => ⟨rfl, hC95 U hU hW⟩⟩ rfl rfl hl.1 rfl (lv_room (Nat.le_of_ble_eq_true rfl)) dX9_putInOrder_58 ⟨(Nat.le_of_ble_eq_true rfl), (Nat.le_of_ble_eq_true rfl)⟩) hS (fun q9 _ h9 => hF92 q9 h9) hF92 (fun u96 r97 t96 H96 L96 ht96 hvm96 hw96 hB96 hz96 hk96 hS => ?_)
  obtain ⟨a98, hr96, hB96⟩ := hB96
  obtain ⟨hP, hD, hK⟩ := pq_jn (wz := [(h0, ce21 h1 h2 o0 h3), (h1, ce147 o1), (a1, ce82 k2), (a34, ce44 h2), (a66, ce44 h2), (h3, ce160 h4), (h4, ce161 kc0 (z.2.2.1 128) (z.2.2.1 129)), (h2, ce3 z.1), (a98, ce44 h2)]) (tz := [(k2, .boolean), (kc0, .object "java/lang/Object")]) hP hD hK [4] [0, 1] rfl hk96 hF92 hB96.1 ht96 hvm96 rfl rfl
  have hG : s.heap.size + 4 ≤ H96.size := va_gr (g := 3) (g1 := 1) hG (by rw [← ht96]; exact hB96.2)
  refine W.eq (g2 := F0 m 61 ls [.ref a98]) (by rw [hr96]) ?_
  refine W.widen (k := 4) (n := 52) (by decide) (by decide) ?_
  refine lv_astore (lv' := [(4, .ref a98), (3, .int 1), (2, .int 2), (1, .ref a1), (0, .ref h0)]) hx hb dX9_putInOrder_61 hl (by decide) rfl (fun ls hl => ?_)
  refine lv_aload hx hb dX9_putInOrder_63 (lv_at hl 0 rfl) ?_
  have hM101 := k50_hasNext l hl9 dC dI z a98 h2 H96.size
  obtain ⟨hF99, hC102⟩ := pc_M hM101 hP hD hK hS hX hT hA [8, 7] [] rfl rfl rfl
  refine va_callFi (va_runF (As := []) (rest := []) (hK.1 1 (RJx35411, TJx35411, 4) rfl).2 ⟨hx, hb, hml, hown, hts⟩ hM101 (va_cwF 0 hts (gF q_261 q_262 q_263 q_246 q_260) rfl rfl rfl hT.2.2.2.2.2.2.1 hF_xIh ⟨Nat.le_of_ble_eq_true rfl, Nat.le_of_ble_eq_true rfl⟩) ⟨pc_blind, va_recv hK hP (ci := 1) (q := (RJx35411, TJx35411, 4)) (q0 := 8) rfl rfl, fun U hU hW => ⟨rfl, hC102 U hU hW⟩⟩ rfl rfl hl.1 rfl (lv_room (Nat.le_of_ble_eq_true rfl)) dX9_putInOrder_65 ⟨(Nat.le_of_ble_eq_true rfl), (Nat.le_of_ble_eq_true rfl)⟩) hS (fun q9 _ h9 => hF99 q9 h9) hF99 (fun r104 u103 t103 H103 L103 ht103 hvm103 hw103 hB103 hz103 hk103 hS => ?_)
  have hP := pq_keep hP hD [8, 7] rfl hk103 hB103.1 ht103
  have hG : s.heap.size + 4 ≤ H103.size := Nat.le_trans hG hz103
  refine W.eq (g2 := F0 m 70 ls [.int 0]) (by rw [hw103]) ?_
  refine lv_if_eq (tgt := 136) hx hb dX9_putInOrder_70 (by decide) (fun _ => ?_) (fun cz => absurd (by decide) cz)
  refine lv_iload_n hx hb dX9_putInOrder_136 rfl (lv_at hl 1 rfl) ?_
  refine lv_if_eq (tgt := 156) hx hb dX9_putInOrder_137 (by decide) (fun cz => absurd cz (by decide)) (fun _ => ?_)
  refine lv_aload_n hx hb dX9_putInOrder_140 rfl (lv_at hl 3 rfl) ?_
  refine lv_iload_n hx hb dX9_putInOrder_141 rfl (lv_at hl 2 rfl) ?_
  refine lv_iconst (v := 1) hx hb dX9_putInOrder_142 (by decide) ?_
  refine va_zast hx hb hK hP hD (va_Sre hS) 2 0 rfl rfl (i := 2) (by unfold vp_in; decide) dX9_putInOrder_143 (fun H105 _ hP hD hS' => ?_)
  have hG : s.heap.size + 4 ≤ H105.size := Nat.le_trans hG hS'.1
  have hS := va_Str hS hS'
  have hP : va_P (dC, dI) xCl [(h0, ce21 h1 h2 o0 h3), (h1, ce147 o1), (a1, ce120 k2), (a34, ce44 h2), (a66, ce44 h2), (h3, ce160 h4), (h4, ce161 kc0 (z.2.2.1 128) (z.2.2.1 129)), (h2, ce3 z.1), (a98, ce44 h2)] H105 := hP
  have hD := vd_as hP hD rfl
  refine lv_aload_n hx hb dX9_putInOrder_144 rfl (lv_at hl 4 rfl) ?_
  refine va_get (D := (dC, dI)) (ci := 8) (v := .ref h3) (C := RX9) (T := TX9) (N := 6) hx hb hts in_X9 hown hK hP 0 rfl rfl 4 (by decide) (hts _ q_67) (fun _ h9 => h9) rfl dX9_putInOrder_145 ?_
  refine lv_iload_n hx hb dX9_putInOrder_148 rfl (lv_at hl 2 rfl) ?_
  have hM108 := k215_valueOf l hl9 dC dI z H105.size
  obtain ⟨hF106, hC109⟩ := pc_M hM108 hP hD hK hS hX hT hA [] [] rfl rfl rfl
  refine va_callr (va_runS (As := [.int 2]) (rest := [.ref h3]) ⟨hx, hb, hml, hown, hts⟩ hM108 (va_cwS 1 hts (gS q_295 q_296 q_297 q_294) rfl rfl rfl hS_J6_valueOf_2dffe ⟨Nat.le_of_ble_eq_true rfl, Nat.le_of_ble_eq_true rfl⟩) ⟨pc_blind, fun U hU hW => ⟨rfl, hC109 U hU hW⟩⟩ rfl rfl hl.1 rfl (lv_room (Nat.le_of_ble_eq_true rfl)) dX9_putInOrder_149 ⟨(Nat.le_of_ble_eq_true rfl), (Nat.le_of_ble_eq_true rfl)⟩) hS (fun q9 _ h9 => hF106 q9 h9) hF106 (fun u110 r111 t110 H110 L110 ht110 hvm110 hw110 hB110 hz110 hk110 hS => ?_)
  obtain ⟨hr110, hB110⟩ := hB110
  have hP := pq_keep hP hD [] rfl hk110 hB110.1 ht110
  have hG : s.heap.size + 4 ≤ H110.size := Nat.le_trans hG hz110
  refine W.eq (g2 := F0 m 152 ls [.ref (z.2.2.1 130), .ref h3]) (by rw [hr110]) ?_
  have hM114 := k316_add l hl9 dC dI z h3 h4 H110.size kc0
  obtain ⟨hF112, hC115⟩ := pc_M hM114 hP hD hK hS hX hT hA [5, 6] [1] rfl rfl rfl
  refine va_calli (va_runV (As := [.ref (z.2.2.1 130)]) (rest := []) ⟨hx, hb, hml, hown, hts⟩ hM114 (cwV 1 hts (gV q_284 q_128 q_129 q_12 q_126) rfl rfl rfl hV_Jx4a65c_add_9ea2d ⟨Nat.le_of_ble_eq_true rfl, Nat.le_of_ble_eq_true rfl⟩) ⟨pc_blind, va_recv hK hP (ci := 0) (q := (RJx4a65c, TJx4a65c, 3)) (q0 := 5) rfl rfl, fun U hU hW => ⟨rfl, hC115 U hU hW⟩⟩ rfl rfl hl.1 rfl (lv_room (Nat.le_of_ble_eq_true rfl)) dX9_putInOrder_152 ⟨(Nat.le_of_ble_eq_true rfl), (Nat.le_of_ble_eq_true rfl)⟩) hS (fun q9 _ h9 => hF112 q9 h9) hF112 (fun r117 u116 t116 H116 L116 ht116 hvm116 hw116 hB116 hz116 hk116 hS => ?_)
  obtain ⟨hP, hD, hK⟩ := pq_jn (wz := [(h0, ce21 h1 h2 o0 h3), (h1, ce147 o1), (a1, ce120 k2), (a34, ce44 h2), (a66, ce44 h2), (h2, ce3 z.1), (a98, ce44 h2), (h3, ce164 h4), (h4, ce101 kc0 (z.2.2.1 128) (z.2.2.1 129) (z.2.2.1 130))]) (tz := [(k2, .boolean), (kc0, .object "java/lang/Object")]) hP hD hK [5, 6] [0] rfl hk116 hF112 hB116.1 ht116 hvm116 rfl rfl
  have hG : s.heap.size + 4 ≤ H116.size := Nat.le_trans hG hz116
  refine W.eq (g2 := F0 m 155 ls [.int 1]) (by rw [hw116]) ?_
  refine lv_pop hx hb dX9_putInOrder_155 rfl ?_
  refine lv_iinc (v := 3) (lv' := [(2, .int 3), (4, .ref a98), (3, .int 1), (1, .ref a1), (0, .ref h0)]) hx hb dX9_putInOrder_156 hl (k := 2) rfl (by decide) (by decide) rfl (fun ls hl => ?_)
  refine lv_goto (tgt := 31) hx hb dX9_putInOrder_159 (by decide) ?_
  refine lv_iload_n hx hb dX9_putInOrder_31 rfl (lv_at hl 0 rfl) ?_
  refine lv_aload_n hx hb dX9_putInOrder_32 rfl (lv_at hl 4 rfl) ?_
  refine va_get (D := (dC, dI)) (ci := 8) (v := .ref h1) (C := RX9) (T := TX9) (N := 6) hx hb hts in_X9 hown hK hP 0 rfl rfl 1 (by decide) (hts _ q_64) (fun _ h9 => h9) rfl dX9_putInOrder_33 ?_
  have hM120 := k20_size l hl9 dC dI z h1 o1 H116.size 4 4
  obtain ⟨hF118, hC121⟩ := pc_M hM120 hP hD hK hS hX hT hA [1] [] rfl rfl rfl
  refine va_calli (va_runV (As := []) (rest := [.int 3]) ⟨hx, hb, hml, hown, hts⟩ hM120 (cwV 0 hts (gV q_272 q_77 q_78 q_12 q_75) rfl rfl rfl hV_Jx4a65c_size_8abf5 ⟨Nat.le_of_ble_eq_true rfl, Nat.le_of_ble_eq_true rfl⟩) ⟨pc_blind, va_recv hK hP (ci := 0) (q := (RJx4a65c, TJx4a65c, 3)) (q0 := 1) rfl rfl, fun U hU hW => ⟨rfl, hC121 U hU hW⟩⟩ rfl rfl hl.1 rfl (lv_room (Nat.le_of_ble_eq_true rfl)) dX9_putInOrder_36 ⟨(Nat.le_of_ble_eq_true rfl), (Nat.le_of_ble_eq_true rfl)⟩) hS (fun q9 _ h9 => hF118 q9 h9) hF118 (fun r123 u122 t122 H122 L122 ht122 hvm122 hw122 hB122 hz122 hk122 hS => ?_)
  have hP := pq_keep hP hD [1] rfl hk122 hB122.1 ht122
  have hG : s.heap.size + 4 ≤ H122.size := Nat.le_trans hG hz122
  refine W.eq (g2 := F0 m 39 ls [.int 4, .int 3]) (by rw [hw122]) ?_
  refine lv_icmp_ge (tgt := 162) hx hb dX9_putInOrder_39 (by decide) (fun cz => absurd cz (by decide)) (fun _ => ?_)
  refine lv_aload_n hx hb dX9_putInOrder_42 rfl (lv_at hl 3 rfl) ?_
  refine lv_iload_n hx hb dX9_putInOrder_43 rfl (lv_at hl 0 rfl) ?_
  refine va_zald hx hb hK hP 2 0 rfl rfl (i := 3) (by unfold vp_in; decide) dX9_putInOrder_44 ?_
  refine W.eq (g2 := F0 m 45 ls [.int 0]) rfl ?_
  refine lv_if_ne (tgt := 52) hx hb dX9_putInOrder_45 (by decide) (fun cz => absurd (by decide) cz) (fun _ => ?_)
  refine lv_iconst (v := 1) hx hb dX9_putInOrder_48 (by decide) ?_
  refine lv_goto (tgt := 53) hx hb dX9_putInOrder_49 (by decide) ?_
  refine lv_istore_n (lv' := [(3, .int 1), (2, .int 3), (4, .ref a98), (1, .ref a1), (0, .ref h0)]) hx hb dX9_putInOrder_53 rfl hl (by decide) rfl (fun ls hl => ?_)
  refine lv_aload_n hx hb dX9_putInOrder_54 rfl (lv_at hl 4 rfl) ?_
  refine va_get (D := (dC, dI)) (ci := 8) (v := .ref h2) (C := RX9) (T := TX9) (N := 6) hx hb hts in_X9 hown hK hP 0 rfl rfl 2 (by decide) (hts _ q_65) (fun _ h9 => h9) rfl dX9_putInOrder_55 ?_
  have hM126 := k49_iterator l hl9 dC dI z h2 H122.size
  obtain ⟨hF124, hC127⟩ := pc_M hM126 hP hD hK hS hX hT hA [5] [] rfl rfl rfl
  refine va_callr (va_runV (As := []) (rest := []) ⟨hx, hb, hml, hown, hts⟩ hM126 (cwV 0 hts (gV q_256 q_257 q_258 q_12 q_255) rfl rfl rfl hV_Jx4a65c_iterator_32c93 ⟨Nat.le_of_ble_eq_true rfl, Nat.le_of_ble_eq_true rfl⟩) ⟨pc_blind, va_recv hK hP (ci := 0) (q := (RJx4a65c, TJx4a65c, 3)) (q0 := 5) rfl rfl, fun U hU hW => ⟨rfl, hC127 U hU hW⟩⟩ rfl rfl hl.1 rfl (lv_room (Nat.le_of_ble_eq_true rfl)) dX9_putInOrder_58 ⟨(Nat.le_of_ble_eq_true rfl), (Nat.le_of_ble_eq_true rfl)⟩) hS (fun q9 _ h9 => hF124 q9 h9) hF124 (fun u128 r129 t128 H128 L128 ht128 hvm128 hw128 hB128 hz128 hk128 hS => ?_)
  obtain ⟨a130, hr128, hB128⟩ := hB128
  obtain ⟨hP, hD, hK⟩ := pq_jn (wz := [(h0, ce21 h1 h2 o0 h3), (h1, ce147 o1), (a1, ce120 k2), (a34, ce44 h2), (a66, ce44 h2), (a98, ce44 h2), (h3, ce164 h4), (h4, ce101 kc0 (z.2.2.1 128) (z.2.2.1 129) (z.2.2.1 130)), (h2, ce3 z.1), (a130, ce44 h2)]) (tz := [(k2, .boolean), (kc0, .object "java/lang/Object")]) hP hD hK [5] [0, 1] rfl hk128 hF124 hB128.1 ht128 hvm128 rfl rfl
  have hG : s.heap.size + 5 ≤ H128.size := va_gr (g := 4) (g1 := 1) hG (by rw [← ht128]; exact hB128.2)
  refine W.eq (g2 := F0 m 61 ls [.ref a130]) (by rw [hr128]) ?_
  refine W.widen (k := 5) (n := 56) (by decide) (by decide) ?_
  refine lv_astore (lv' := [(4, .ref a130), (3, .int 1), (2, .int 3), (1, .ref a1), (0, .ref h0)]) hx hb dX9_putInOrder_61 hl (by decide) rfl (fun ls hl => ?_)
  refine lv_aload hx hb dX9_putInOrder_63 (lv_at hl 0 rfl) ?_
  have hM133 := k50_hasNext l hl9 dC dI z a130 h2 H128.size
  obtain ⟨hF131, hC134⟩ := pc_M hM133 hP hD hK hS hX hT hA [9, 8] [] rfl rfl rfl
  refine va_callFi (va_runF (As := []) (rest := []) (hK.1 1 (RJx35411, TJx35411, 4) rfl).2 ⟨hx, hb, hml, hown, hts⟩ hM133 (va_cwF 0 hts (gF q_261 q_262 q_263 q_246 q_260) rfl rfl rfl hT.2.2.2.2.2.2.1 hF_xIh ⟨Nat.le_of_ble_eq_true rfl, Nat.le_of_ble_eq_true rfl⟩) ⟨pc_blind, va_recv hK hP (ci := 1) (q := (RJx35411, TJx35411, 4)) (q0 := 9) rfl rfl, fun U hU hW => ⟨rfl, hC134 U hU hW⟩⟩ rfl rfl hl.1 rfl (lv_room (Nat.le_of_ble_eq_true rfl)) dX9_putInOrder_65 ⟨(Nat.le_of_ble_eq_true rfl), (Nat.le_of_ble_eq_true rfl)⟩) hS (fun q9 _ h9 => hF131 q9 h9) hF131 (fun r136 u135 t135 H135 L135 ht135 hvm135 hw135 hB135 hz135 hk135 hS => ?_)
  have hP := pq_keep hP hD [9, 8] rfl hk135 hB135.1 ht135
  have hG : s.heap.size + 5 ≤ H135.size := Nat.le_trans hG hz135
  refine W.eq (g2 := F0 m 70 ls [.int 0]) (by rw [hw135]) ?_
  refine lv_if_eq (tgt := 136) hx hb dX9_putInOrder_70 (by decide) (fun _ => ?_) (fun cz => absurd (by decide) cz)
  refine lv_iload_n hx hb dX9_putInOrder_136 rfl (lv_at hl 1 rfl) ?_
  refine lv_if_eq (tgt := 156) hx hb dX9_putInOrder_137 (by decide) (fun cz => absurd cz (by decide)) (fun _ => ?_)
  refine lv_aload_n hx hb dX9_putInOrder_140 rfl (lv_at hl 3 rfl) ?_
  refine lv_iload_n hx hb dX9_putInOrder_141 rfl (lv_at hl 2 rfl) ?_
  refine lv_iconst (v := 1) hx hb dX9_putInOrder_142 (by decide) ?_
  refine va_zast hx hb hK hP hD (va_Sre hS) 2 0 rfl rfl (i := 3) (by unfold vp_in; decide) dX9_putInOrder_143 (fun H137 _ hP hD hS' => ?_)
  have hG : s.heap.size + 5 ≤ H137.size := Nat.le_trans hG hS'.1
  have hS := va_Str hS hS'
  have hP : va_P (dC, dI) xCl [(h0, ce21 h1 h2 o0 h3), (h1, ce147 o1), (a1, ce170 k2), (a34, ce44 h2), (a66, ce44 h2), (a98, ce44 h2), (h3, ce164 h4), (h4, ce101 kc0 (z.2.2.1 128) (z.2.2.1 129) (z.2.2.1 130)), (h2, ce3 z.1), (a130, ce44 h2)] H137 := hP
  have hD := vd_as hP hD rfl
  refine lv_aload_n hx hb dX9_putInOrder_144 rfl (lv_at hl 4 rfl) ?_
  refine va_get (D := (dC, dI)) (ci := 8) (v := .ref h3) (C := RX9) (T := TX9) (N := 6) hx hb hts in_X9 hown hK hP 0 rfl rfl 4 (by decide) (hts _ q_67) (fun _ h9 => h9) rfl dX9_putInOrder_145 ?_
  refine lv_iload_n hx hb dX9_putInOrder_148 rfl (lv_at hl 2 rfl) ?_
  have hM140 := k317_valueOf l hl9 dC dI z H137.size
  obtain ⟨hF138, hC141⟩ := pc_M hM140 hP hD hK hS hX hT hA [] [] rfl rfl rfl
  refine va_callr (va_runS (As := [.int 3]) (rest := [.ref h3]) ⟨hx, hb, hml, hown, hts⟩ hM140 (va_cwS 1 hts (gS q_295 q_296 q_297 q_294) rfl rfl rfl hS_J6_valueOf_2dffe ⟨Nat.le_of_ble_eq_true rfl, Nat.le_of_ble_eq_true rfl⟩) ⟨pc_blind, fun U hU hW => ⟨rfl, hC141 U hU hW⟩⟩ rfl rfl hl.1 rfl (lv_room (Nat.le_of_ble_eq_true rfl)) dX9_putInOrder_149 ⟨(Nat.le_of_ble_eq_true rfl), (Nat.le_of_ble_eq_true rfl)⟩) hS (fun q9 _ h9 => hF138 q9 h9) hF138 (fun u142 r143 t142 H142 L142 ht142 hvm142 hw142 hB142 hz142 hk142 hS => ?_)
  obtain ⟨hr142, hB142⟩ := hB142
  have hP := pq_keep hP hD [] rfl hk142 hB142.1 ht142
  have hG : s.heap.size + 5 ≤ H142.size := Nat.le_trans hG hz142
  refine W.eq (g2 := F0 m 152 ls [.ref (z.2.2.1 131), .ref h3]) (by rw [hr142]) ?_
  have hM146 := k319_add l hl9 dC dI z h3 h4 H142.size kc0
  obtain ⟨hF144, hC147⟩ := pc_M hM146 hP hD hK hS hX hT hA [6, 7] [1] rfl rfl rfl
  refine va_calli (va_runV (As := [.ref (z.2.2.1 131)]) (rest := []) ⟨hx, hb, hml, hown, hts⟩ hM146 (cwV 1 hts (gV q_284 q_128 q_129 q_12 q_126) rfl rfl rfl hV_Jx4a65c_add_9ea2d ⟨Nat.le_of_ble_eq_true rfl, Nat.le_of_ble_eq_true rfl⟩) ⟨pc_blind, va_recv hK hP (ci := 0) (q := (RJx4a65c, TJx4a65c, 3)) (q0 := 6) rfl rfl, fun U hU hW => ⟨rfl, hC147 U hU hW⟩⟩ rfl rfl hl.1 rfl (lv_room (Nat.le_of_ble_eq_true rfl)) dX9_putInOrder_152 ⟨(Nat.le_of_ble_eq_true rfl), (Nat.le_of_ble_eq_true rfl)⟩) hS (fun q9 _ h9 => hF144 q9 h9) hF144 (fun r149 u148 t148 H148 L148 ht148 hvm148 hw148 hB148 hz148 hk148 hS => ?_)
  obtain ⟨hP, hD, hK⟩ := pq_jn (wz := [(h0, ce21 h1 h2 o0 h3), (h1, ce147 o1), (a1, ce170 k2), (a34, ce44 h2), (a66, ce44 h2), (a98, ce44 h2), (h2, ce3 z.1), (a130, ce44 h2), (h3, ce167 h4), (h4, ce146 kc0 (z.2.2.1 128) (z.2.2.1 129) (z.2.2.1 130) (z.2.2.1 131))]) (tz := [(k2, .boolean), (kc0, .object "java/lang/Object")]) hP hD hK [6, 7] [0] rfl hk148 hF144 hB148.1 ht148 hvm148 rfl rfl
  have hG : s.heap.size + 5 ≤ H148.size := Nat.le_trans hG hz148
  refine W.eq (g2 := F0 m 155 ls [.int 1]) (by rw [hw148]) ?_
  refine lv_pop hx hb dX9_putInOrder_155 rfl ?_
  refine lv_iinc (v := 4) (lv' := [(2, .int 4), (4, .ref a130), (3, .int 1), (1, .ref a1), (0, .ref h0)]) hx hb dX9_putInOrder_156 hl (k := 2) rfl (by decide) (by decide) rfl (fun ls hl => ?_)
  refine lv_goto (tgt := 31) hx hb dX9_putInOrder_159 (by decide) ?_
  refine lv_iload_n hx hb dX9_putInOrder_31 rfl (lv_at hl 0 rfl) ?_
  refine lv_aload_n hx hb dX9_putInOrder_32 rfl (lv_at hl 4 rfl) ?_
  refine va_get (D := (dC, dI)) (ci := 8) (v := .ref h1) (C := RX9) (T := TX9) (N := 6) hx hb hts in_X9 hown hK hP 0 rfl rfl 1 (by decide) (hts _ q_64) (fun _ h9 => h9) rfl dX9_putInOrder_33 ?_
  have hM152 := k20_size l hl9 dC dI z h1 o1 H148.size 4 4
  obtain ⟨hF150, hC153⟩ := pc_M hM152 hP hD hK hS hX hT hA [1] [] rfl rfl rfl
  refine va_calli (va_runV (As := []) (rest := [.int 4]) ⟨hx, hb, hml, hown, hts⟩ hM152 (cwV 0 hts (gV q_272 q_77 q_78 q_12 q_75) rfl rfl rfl hV_Jx4a65c_size_8abf5 ⟨Nat.le_of_ble_eq_true rfl, Nat.le_of_ble_eq_true rfl⟩) ⟨pc_blind, va_recv hK hP (ci := 0) (q := (RJx4a65c, TJx4a65c, 3)) (q0 := 1) rfl rfl, fun U hU hW => ⟨rfl, hC153 U hU hW⟩⟩ rfl rfl hl.1 rfl (lv_room (Nat.le_of_ble_eq_true rfl)) dX9_putInOrder_36 ⟨(Nat.le_of_ble_eq_true rfl), (Nat.le_of_ble_eq_true rfl)⟩) hS (fun q9 _ h9 => hF150 q9 h9) hF150 (fun r155 u154 t154 H154 L154 ht154 hvm154 hw154 hB154 hz154 hk154 hS => ?_)
  have hP := pq_keep hP hD [1] rfl hk154 hB154.1 ht154
  have hG : s.heap.size + 5 ≤ H154.size := Nat.le_trans hG hz154
  refine W.eq (g2 := F0 m 39 ls [.int 4, .int 4]) (by rw [hw154]) ?_
  refine lv_icmp_ge (tgt := 162) hx hb dX9_putInOrder_39 (by decide) (fun _ => ?_) (fun cz => absurd (by decide) cz)
  refine lv_goto (tgt := 12) hx hb dX9_putInOrder_162 (by decide) ?_
  refine lv_aload_n hx hb dX9_putInOrder_12 rfl (lv_at hl 4 rfl) ?_
  refine va_get (D := (dC, dI)) (ci := 8) (v := .ref h3) (C := RX9) (T := TX9) (N := 6) hx hb hts in_X9 hown hK hP 0 rfl rfl 4 (by decide) (hts _ q_67) (fun _ h9 => h9) rfl dX9_putInOrder_13 ?_
  have hM158 := k20_size l hl9 dC dI z h3 h4 H154.size 14 4
  obtain ⟨hF156, hC159⟩ := pc_M hM158 hP hD hK hS hX hT hA [8] [] rfl rfl rfl
  refine va_calli (va_runV (As := []) (rest := []) ⟨hx, hb, hml, hown, hts⟩ hM158 (cwV 0 hts (gV q_272 q_77 q_78 q_12 q_75) rfl rfl rfl hV_Jx4a65c_size_8abf5 ⟨Nat.le_of_ble_eq_true rfl, Nat.le_of_ble_eq_true rfl⟩) ⟨pc_blind, va_recv hK hP (ci := 0) (q := (RJx4a65c, TJx4a65c, 3)) (q0 := 8) rfl rfl, fun U hU hW => ⟨rfl, hC159 U hU hW⟩⟩ rfl rfl hl.1 rfl (lv_room (Nat.le_of_ble_eq_true rfl)) dX9_putInOrder_16 ⟨(Nat.le_of_ble_eq_true rfl), (Nat.le_of_ble_eq_true rfl)⟩) hS (fun q9 _ h9 => hF156 q9 h9) hF156 (fun r161 u160 t160 H160 L160 ht160 hvm160 hw160 hB160 hz160 hk160 hS => ?_)
  have hP := pq_keep hP hD [8] rfl hk160 hB160.1 ht160
  have hG : s.heap.size + 5 ≤ H160.size := Nat.le_trans hG hz160
  refine W.eq (g2 := F0 m 19 ls [.int 4]) (by rw [hw160]) ?_
  refine lv_aload_n hx hb dX9_putInOrder_19 rfl (lv_at hl 4 rfl) ?_
  refine va_get (D := (dC, dI)) (ci := 8) (v := .ref h1) (C := RX9) (T := TX9) (N := 6) hx hb hts in_X9 hown hK hP 0 rfl rfl 1 (by decide) (hts _ q_64) (fun _ h9 => h9) rfl dX9_putInOrder_20 ?_
  have hM164 := k20_size l hl9 dC dI z h1 o1 H160.size 4 4
  obtain ⟨hF162, hC165⟩ := pc_M hM164 hP hD hK hS hX hT hA [1] [] rfl rfl rfl
  refine va_calli (va_runV (As := []) (rest := [.int 4]) ⟨hx, hb, hml, hown, hts⟩ hM164 (cwV 0 hts (gV q_272 q_77 q_78 q_12 q_75) rfl rfl rfl hV_Jx4a65c_size_8abf5 ⟨Nat.le_of_ble_eq_true rfl, Nat.le_of_ble_eq_true rfl⟩) ⟨pc_blind, va_recv hK hP (ci := 0) (q := (RJx4a65c, TJx4a65c, 3)) (q0 := 1) rfl rfl, fun U hU hW => ⟨rfl, hC165 U hU hW⟩⟩ rfl rfl hl.1 rfl (lv_room (Nat.le_of_ble_eq_true rfl)) dX9_putInOrder_23 ⟨(Nat.le_of_ble_eq_true rfl), (Nat.le_of_ble_eq_true rfl)⟩) hS (fun q9 _ h9 => hF162 q9 h9) hF162 (fun r167 u166 t166 H166 L166 ht166 hvm166 hw166 hB166 hz166 hk166 hS => ?_)
  have hP := pq_keep hP hD [1] rfl hk166 hB166.1 ht166
  have hG : s.heap.size + 5 ≤ H166.size := Nat.le_trans hG hz166
  refine W.eq (g2 := F0 m 26 ls [.int 4, .int 4]) (by rw [hw166]) ?_
  refine lv_icmp_ge (tgt := 165) hx hb dX9_putInOrder_26 (by decide) (fun _ => ?_) (fun cz => absurd (by decide) cz)
  exact W.vret hx hb hr (fun t9 ht9 hW9 => ⟨⟨(), rfl, trivial, ⟨pq_mk2 hP hD hK [0, 1, 6, 8, 9] [1] rfl rfl rfl ht9 hW9, by rw [ht9]; exact Nat.le_trans (Nat.add_le_add_left (Nat.le_of_ble_eq_true rfl) _) hG⟩⟩, hS.F ht9⟩) hS.2.2 dX9_putInOrder_165

set_option maxHeartbeats 4000000 in
set_option maxRecDepth 100000 in
theorem k321_init (l : Launch) (hl9 : l.stackTraces = false) (dC : Nat → ClassId) (dI : Nat → Nat → Nat) (z : XZ) (h0 h1 : Nat) (o0 : Nat) (sz : Nat) : Met l yJx35411_init_45d68 (.code yJx35411_init_45d68 cJx35411_init_45d68 2 none :: wsL_law) ({ frames := 1, cells := 0, slots := 0, locals := 16 }) (va_Pc [.ref h0, .ref h1] (PC (dC, dI) [(h0, ce42), (h1, ce147 o0)] [] sz z)) (va_Qv (fun (_ : Unit) => True) (fun (_ : Unit) (t : State) => PG (dC, dI) [(h0, ce171 h1), (h1, ce147 o0)] [] (va_A [(h0, ce42), (h1, ce147 o0)] sz) sz 0 t) (va_A [(h0, ce42), (h1, ce147 o0)] sz)) 0 0 (va_A [(h0, ce42), (h1, ce147 o0)] sz) := by
  refine Met.ofW (cc := cJx35411_init_45d68) (maxL := 2) (ret := none) (by decide) rfl ?_
  intro p e s m args below meth c s₁ B hml hv
  obtain ⟨rfl, hsz, hP, hK, hD0, hX, hT⟩ := hv
  have hx := B.exec
  have hb := B.bytes
  have hr := B.returns
  have hts0 := atoms_spec (ws := .code yJx35411_init_45d68 cJx35411_init_45d68 2 none :: wsL_law) B.pre
  have hts := xTail hts0
  have hown : s.vm.findClass RJx35411 = some m.cls := xown B.named rfl
  have hlocks := B.notSynchronized
  have hin : meth.name = "<init>" := (name_of_methodNamed B.named B.method).1
  subst hsz
  have hD := hD0.self (sz := s.heap.size)
  generalize hAe : va_A [(h0, ce42), (h1, ce147 o0)] s.heap.size = A at hD hX ⊢
  have hA : ∀ q : Nat, s.heap.size ≤ q → A q := fun q h => by rw [← hAe]; exact Or.inr h
  have hS : va_S A s.heap s.heap [] := va_S.rf
  have hG : s.heap.size + 0 ≤ s.heap.size := Nat.le_refl _
  have hl := lv_entry ([.ref h0, .ref h1]) (n := 2) (Nat.le_of_ble_eq_true rfl)
  rw [lg_entry_eq]
  generalize (lg_sl ([.ref h0, .ref h1]) ++ List.replicate (2 - (lg_sl ([.ref h0, .ref h1])).length) Slot.unset).toArray = ls at hl ⊢
  have hl : lv_has ls 2 [(0, .ref h0), (1, .ref h1)] := hl
  refine lv_aload_n hx hb dJx35411_init_45d68_0 rfl (lv_at hl 0 rfl) ?_
  refine lv_aload_n hx hb dJx35411_init_45d68_1 rfl (lv_at hl 1 rfl) ?_
  refine va_putF (D := (dC, dI)) (ci := 1) (v := .ref h1) (ty := .object "java/util/ArrayList") (C := RJx35411) (T := TJx35411) (N := 4) hx hb hts in_Jx35411 tyJx35411 tyJx35411_ok nmJx35411 hown hK hP hD (va_Sre hS) 0 rfl rfl 3 (by decide) (hts _ q_247) (fun _ h9 => h9) rfl hin rfl (by decide +kernel) rfl rfl (Nat.le_of_ble_eq_true rfl) dJx35411_init_45d68_2 (fun H1 _ hP hD hS' => ?_)
  have hG : s.heap.size + 0 ≤ H1.size := Nat.le_trans hG hS'.1
  have hS := va_Str hS hS'
  have hP : va_P (dC, dI) xCl [(h0, ce43 h1), (h1, ce147 o0)] H1 := hP
  have hD := vd_as hP hD rfl
  refine lv_aload_n hx hb dJx35411_init_45d68_5 rfl (lv_at hl 0 rfl) ?_
  refine W.objInit hx hb hown (hts _ q_248) (hts _ q_4) (hts _ q_5) rfl (by rw [hml]; exact hl.1) rfl dJx35411_init_45d68_6 (Nat.le_of_ble_eq_true rfl) (Nat.le_of_ble_eq_true rfl) ?_
  refine W.eq (g2 := F0 m 9 ls []) rfl ?_
  refine lv_aload_n hx hb dJx35411_init_45d68_9 rfl (lv_at hl 0 rfl) ?_
  refine lv_iconst (v := (-1)) hx hb dJx35411_init_45d68_10 (by decide) ?_
  refine va_put (D := (dC, dI)) (ci := 1) (v := .int (-1)) (ty := .int) (C := RJx35411) (T := TJx35411) (N := 4) hx hb hts in_Jx35411 tyJx35411 tyJx35411_ok nmJx35411 hown hK hP hD (va_Sre hS) 0 rfl rfl 1 (by decide) (hts _ q_249) (fun _ h9 => h9) rfl (by decide +kernel) rfl rfl (Nat.le_of_ble_eq_true rfl) dJx35411_init_45d68_11 (fun H2 _ hP hD hS' => ?_)
  have hG : s.heap.size + 0 ≤ H2.size := Nat.le_trans hG hS'.1
  have hS := va_Str hS hS'
  have hP : va_P (dC, dI) xCl [(h0, ce44 h1), (h1, ce147 o0)] H2 := hP
  have hD := vd_as hP hD rfl
  refine lv_aload_n hx hb dJx35411_init_45d68_14 rfl (lv_at hl 0 rfl) ?_
  refine lv_aload_n hx hb dJx35411_init_45d68_15 rfl (lv_at hl 0 rfl) ?_
  refine va_get (D := (dC, dI)) (ci := 1) (v := .ref h1) (C := RJx35411) (T := TJx35411) (N := 4) hx hb hts in_Jx35411 hown hK hP 0 rfl rfl 3 (by decide) (hts _ q_247) (fun _ h9 => h9) rfl dJx35411_init_45d68_16 ?_
  refine va_get (D := (dC, dI)) (ci := 0) (v := .int 4) (C := RJx4a65c) (T := TJx4a65c) (N := 3) hx hb hts in_Jx4a65c hown hK hP 1 rfl rfl 0 (by decide) (hts _ q_250) (u_same (hts _ q_107)) rfl dJx35411_init_45d68_19 ?_
  refine va_put (D := (dC, dI)) (ci := 1) (v := .int 4) (ty := .int) (C := RJx35411) (T := TJx35411) (N := 4) hx hb hts in_Jx35411 tyJx35411 tyJx35411_ok nmJx35411 hown hK hP hD (va_Sre hS) 0 rfl rfl 2 (by decide) (hts _ q_251) (fun _ h9 => h9) rfl (by decide +kernel) rfl rfl (Nat.le_of_ble_eq_true rfl) dJx35411_init_45d68_22 (fun H3 _ hP hD hS' => ?_)
  have hG : s.heap.size + 0 ≤ H3.size := Nat.le_trans hG hS'.1
  have hS := va_Str hS hS'
  have hP : va_P (dC, dI) xCl [(h0, ce171 h1), (h1, ce147 o0)] H3 := hP
  have hD := vd_as hP hD rfl
  exact W.vret hx hb hr (fun t9 ht9 hW9 => ⟨⟨(), rfl, trivial, ⟨pq_mk2 hP hD hK [0, 1] [] rfl rfl rfl ht9 hW9, by rw [ht9]; exact Nat.le_trans (Nat.add_le_add_left (Nat.le_of_ble_eq_true rfl) _) hG⟩⟩, hS.F ht9⟩) hS.2.2 dJx35411_init_45d68_25

set_option maxHeartbeats 4000000 in
set_option maxRecDepth 100000 in
theorem k322_iterator (l : Launch) (hl9 : l.stackTraces = false) (dC : Nat → ClassId) (dI : Nat → Nat → Nat) (z : XZ) (h0 : Nat) (o0 : Nat) (sz : Nat) : Met l yJx4a65c_iterator_32c93 (.code yJx4a65c_iterator_32c93 cJx4a65c_iterator_32c93 1 (some (.object "java/util/Iterator")) :: wsL_law) ({ frames := 2, cells := 1, slots := 4, locals := 37 }) (va_Pc [.ref h0] (PC (dC, dI) [(h0, ce147 o0)] [] sz z)) (va_Qr (fun (_ : Unit) => True) (fun (_ : Unit) (ra : Nat) (t : State) => ∃ (n0 : Nat), ra = n0 ∧ PG (dC, dI) [(h0, ce147 o0), (n0, ce171 h0)] [] (va_A [(h0, ce147 o0)] sz) sz 1 t) (va_A [(h0, ce147 o0)] sz)) 1 4 (va_A [(h0, ce147 o0)] sz) := by
  refine Met.ofW (cc := cJx4a65c_iterator_32c93) (maxL := 1) (ret := (some (.object "java/util/Iterator"))) (by decide) rfl ?_
  intro p e s m args below meth c s₁ B hml hv
  obtain ⟨rfl, hsz, hP, hK, hD0, hX, hT⟩ := hv
  have hx := B.exec
  have hb := B.bytes
  have hr := B.returns
  have hts0 := atoms_spec (ws := .code yJx4a65c_iterator_32c93 cJx4a65c_iterator_32c93 1 (some (.object "java/util/Iterator")) :: wsL_law) B.pre
  have hts := xTail hts0
  have hown : s.vm.findClass RJx4a65c = some m.cls := xown B.named rfl
  have hlocks := B.notSynchronized
  subst hsz
  have hD := hD0.self (sz := s.heap.size)
  generalize hAe : va_A [(h0, ce147 o0)] s.heap.size = A at hD hX ⊢
  have hA : ∀ q : Nat, s.heap.size ≤ q → A q := fun q h => by rw [← hAe]; exact Or.inr h
  have hS : va_S A s.heap s.heap [] := va_S.rf
  have hG : s.heap.size + 0 ≤ s.heap.size := Nat.le_refl _
  have hl := lv_entry ([.ref h0]) (n := 1) (Nat.le_of_ble_eq_true rfl)
  rw [lg_entry_eq]
  generalize (lg_sl ([.ref h0]) ++ List.replicate (1 - (lg_sl ([.ref h0])).length) Slot.unset).toArray = ls at hl ⊢
  have hl : lv_has ls 1 [(0, .ref h0)] := hl
  refine xa_new (ci := 1) (fs := [.int 0, .int 0, .int 0, .null]) (C := RJx35411) (T := TJx35411) (N := 4) hx hb hts in_Jx35411 tyJx35411 tyJx35411_ok hown (hts _ q_244) (hts _ q_245) (hts _ q_246) hK hP hD hS hA rfl nf_Jx35411 (Nat.le_of_ble_eq_true rfl) (Nat.le_of_ble_eq_true rfl) dJx4a65c_iterator_32c93_0 (fun a1 H2 hg8 hP hD hS => ?_)
  have hG : s.heap.size + 1 ≤ H2.size := by rw [hg8]; exact Nat.succ_le_succ hG
  have hP : va_P (dC, dI) xCl [(h0, ce147 o0), (a1, ce42)] H2 := hP
  have hD := vd_as hP hD rfl
  refine W.widen (k := 1) (n := 4) (by decide) (by decide) ?_
  refine lv_dup hx hb dJx4a65c_iterator_32c93_3 rfl ?_
  refine lv_aload_n hx hb dJx4a65c_iterator_32c93_4 rfl (lv_at hl 0 rfl) ?_
  have hM5 := k321_init l hl9 dC dI z a1 h0 o0 H2.size
  obtain ⟨hF3, hC6⟩ := pc_M hM5 hP hD hK hS hX hT hA [1, 0] [] rfl rfl rfl
  refine va_callv (va_runI (As := [.ref h0]) (rest := [.ref a1]) ⟨hx, hb, hml, hown, hts⟩ hM5 (cwI 1 hts (gIL q_252) rfl rfl rfl (hts _ q_246) (hts _ q_253) (hts _ q_254) rfl hS_Jx35411_init_45d68 ⟨Nat.le_of_ble_eq_true rfl, Nat.le_of_ble_eq_true rfl⟩) ⟨pc_blind, fun U hU hW => ⟨rfl, hC6 U hU hW⟩⟩ rfl rfl hl.1 rfl (lv_room (Nat.le_of_ble_eq_true rfl)) dJx4a65c_iterator_32c93_5 ⟨(Nat.le_of_ble_eq_true rfl), (Nat.le_of_ble_eq_true rfl)⟩) hS (fun q9 _ h9 => hF3 q9 h9) hF3 (fun u7 t7 H7 L7 ht7 hvm7 hw7 hB7 hz7 hk7 hS => ?_)
  obtain ⟨hP, hD, hK⟩ := pq_jn (wz := [(a1, ce171 h0), (h0, ce147 o0)]) (tz := []) hP hD hK [1, 0] [] rfl hk7 hF3 hB7.1 ht7 hvm7 rfl rfl
  have hG : s.heap.size + 1 ≤ H7.size := Nat.le_trans hG hz7
  exact W.aret (v := .ref a1) hx hb hr (by first | exact Or.inl ⟨_, rfl⟩ | exact Or.inr ⟨_, rfl⟩) (Or.inr ⟨_, rfl⟩) (fun t9 ht9 hW9 => ⟨⟨(), a1, rfl, trivial, ⟨a1, rfl, ⟨pq_mk2 hP hD hK [1, 0] [] rfl rfl rfl ht9 hW9, by rw [ht9]; exact Nat.le_trans (Nat.add_le_add_left (Nat.le_of_ble_eq_true rfl) _) hG⟩⟩⟩, hS.F ht9⟩) hS.2.2 dJx4a65c_iterator_32c93_8

set_option maxHeartbeats 4000000 in
set_option maxRecDepth 100000 in
theorem k323_hasNext (l : Launch) (hl9 : l.stackTraces = false) (dC : Nat → ClassId) (dI : Nat → Nat → Nat) (z : XZ) (h0 h1 : Nat) (o0 : Nat) (sz : Nat) : Met l yJx35411_hasNext_aae02 (.code yJx35411_hasNext_aae02 cJx35411_hasNext_aae02 1 (some .boolean) :: wsL_law) ({ frames := 0, cells := 0, slots := 0, locals := 0 }) (va_Pc [.ref h0] (PC (dC, dI) [(h0, ce171 h1), (h1, ce147 o0)] [] sz z)) (va_Qi (fun (r : Int32) (_ : Unit) => r = 1) (fun (_ : Unit) (t : State) => PG (dC, dI) [(h0, ce171 h1), (h1, ce147 o0)] [] (va_A [(h0, ce171 h1), (h1, ce147 o0)] sz) sz 0 t) (va_A [(h0, ce171 h1), (h1, ce147 o0)] sz)) 0 0 (va_A [(h0, ce171 h1), (h1, ce147 o0)] sz) := by
  refine Met.ofW (cc := cJx35411_hasNext_aae02) (maxL := 1) (ret := (some .boolean)) (by decide) rfl ?_
  intro p e s m args below meth c s₁ B hml hv
  obtain ⟨rfl, hsz, hP, hK, hD0, hX, hT⟩ := hv
  have hx := B.exec
  have hb := B.bytes
  have hr := B.returns
  have hts0 := atoms_spec (ws := .code yJx35411_hasNext_aae02 cJx35411_hasNext_aae02 1 (some .boolean) :: wsL_law) B.pre
  have hts := xTail hts0
  have hown : s.vm.findClass RJx35411 = some m.cls := xown B.named rfl
  have hlocks := B.notSynchronized
  subst hsz
  have hD := hD0.self (sz := s.heap.size)
  generalize hAe : va_A [(h0, ce171 h1), (h1, ce147 o0)] s.heap.size = A at hD hX ⊢
  have hA : ∀ q : Nat, s.heap.size ≤ q → A q := fun q h => by rw [← hAe]; exact Or.inr h
  have hS : va_S A s.heap s.heap [] := va_S.rf
  have hG : s.heap.size + 0 ≤ s.heap.size := Nat.le_refl _
  have hl := lv_entry ([.ref h0]) (n := 1) (Nat.le_of_ble_eq_true rfl)
  rw [lg_entry_eq]
  generalize (lg_sl ([.ref h0]) ++ List.replicate (1 - (lg_sl ([.ref h0])).length) Slot.unset).toArray = ls at hl ⊢
  have hl : lv_has ls 1 [(0, .ref h0)] := hl
  refine lv_aload_n hx hb dJx35411_hasNext_aae02_0 rfl (lv_at hl 0 rfl) ?_
  refine va_get (D := (dC, dI)) (ci := 1) (v := .int 0) (C := RJx35411) (T := TJx35411) (N := 4) hx hb hts in_Jx35411 hown hK hP 0 rfl rfl 0 (by decide) (hts _ q_259) (fun _ h9 => h9) rfl dJx35411_hasNext_aae02_1 ?_
  refine lv_aload_n hx hb dJx35411_hasNext_aae02_4 rfl (lv_at hl 0 rfl) ?_
  refine va_get (D := (dC, dI)) (ci := 1) (v := .ref h1) (C := RJx35411) (T := TJx35411) (N := 4) hx hb hts in_Jx35411 hown hK hP 0 rfl rfl 3 (by decide) (hts _ q_247) (fun _ h9 => h9) rfl dJx35411_hasNext_aae02_5 ?_
  refine va_getN (D := (dC, dI)) (ci := 0) (v := .int 4) (C := RJx4a65c) (T := TJx4a65c) (N := 3) hx hb hts in_Jx4a65c hown hK hP 1 rfl rfl 2 (by decide) (va_Nw.use rfl hT.2.2.2.2.1) (fun _ h9 => h9) rfl dJx35411_hasNext_aae02_8 ?_
  refine lv_icmp_eq (tgt := 18) hx hb dJx35411_hasNext_aae02_11 (by decide) (fun cz => absurd cz (by decide)) (fun _ => ?_)
  refine lv_iconst (v := 1) hx hb dJx35411_hasNext_aae02_14 (by decide) ?_
  refine lv_goto (tgt := 19) hx hb dJx35411_hasNext_aae02_15 (by decide) ?_
  exact W.zret (v := 1) (ty := .boolean) hx hb hr rfl (fun t9 ht9 hW9 => ⟨⟨1, (), rfl, rfl, ⟨pq_mk2 hP hD hK [0, 1] [] rfl rfl rfl ht9 hW9, by rw [ht9]; exact Nat.le_trans (Nat.add_le_add_left (Nat.le_of_ble_eq_true rfl) _) hG⟩⟩, hS.F ht9⟩) hS.2.2 dJx35411_hasNext_aae02_19

set_option maxHeartbeats 4000000 in
set_option maxRecDepth 100000 in
theorem k324_checkForComodification (l : Launch) (hl9 : l.stackTraces = false) (dC : Nat → ClassId) (dI : Nat → Nat → Nat) (z : XZ) (h0 h1 : Nat) (o0 : Nat) (sz : Nat) : Met l yJx35411_checkForComodification_da8c8 (.code yJx35411_checkForComodification_da8c8 cJx35411_checkForComodification_da8c8 1 none :: wsL_law) ({ frames := 0, cells := 0, slots := 0, locals := 0 }) (va_Pc [.ref h0] (PC (dC, dI) [(h0, ce171 h1), (h1, ce147 o0)] [] sz z)) (va_Qv (fun (_ : Unit) => True) (fun (_ : Unit) (t : State) => PG (dC, dI) [(h0, ce171 h1), (h1, ce147 o0)] [] (va_A [(h0, ce171 h1), (h1, ce147 o0)] sz) sz 0 t) (va_A [(h0, ce171 h1), (h1, ce147 o0)] sz)) 0 0 (va_A [(h0, ce171 h1), (h1, ce147 o0)] sz) := by
  refine Met.ofW (cc := cJx35411_checkForComodification_da8c8) (maxL := 1) (ret := none) (by decide) rfl ?_
  intro p e s m args below meth c s₁ B hml hv
  obtain ⟨rfl, hsz, hP, hK, hD0, hX, hT⟩ := hv
  have hx := B.exec
  have hb := B.bytes
  have hr := B.returns
  have hts0 := atoms_spec (ws := .code yJx35411_checkForComodification_da8c8 cJx35411_checkForComodification_da8c8 1 none :: wsL_law) B.pre
  have hts := xTail hts0
  have hown : s.vm.findClass RJx35411 = some m.cls := xown B.named rfl
  have hlocks := B.notSynchronized
  subst hsz
  have hD := hD0.self (sz := s.heap.size)
  generalize hAe : va_A [(h0, ce171 h1), (h1, ce147 o0)] s.heap.size = A at hD hX ⊢
  have hA : ∀ q : Nat, s.heap.size ≤ q → A q := fun q h => by rw [← hAe]; exact Or.inr h
  have hS : va_S A s.heap s.heap [] := va_S.rf
  have hG : s.heap.size + 0 ≤ s.heap.size := Nat.le_refl _
  have hl := lv_entry ([.ref h0]) (n := 1) (Nat.le_of_ble_eq_true rfl)
  rw [lg_entry_eq]
  generalize (lg_sl ([.ref h0]) ++ List.replicate (1 - (lg_sl ([.ref h0])).length) Slot.unset).toArray = ls at hl ⊢
  have hl : lv_has ls 1 [(0, .ref h0)] := hl
  refine lv_aload_n hx hb dJx35411_checkForComodification_da8c8_0 rfl (lv_at hl 0 rfl) ?_
  refine va_get (D := (dC, dI)) (ci := 1) (v := .ref h1) (C := RJx35411) (T := TJx35411) (N := 4) hx hb hts in_Jx35411 hown hK hP 0 rfl rfl 3 (by decide) (hts _ q_247) (fun _ h9 => h9) rfl dJx35411_checkForComodification_da8c8_1 ?_
  refine va_get (D := (dC, dI)) (ci := 0) (v := .int 4) (C := RJx4a65c) (T := TJx4a65c) (N := 3) hx hb hts in_Jx4a65c hown hK hP 1 rfl rfl 0 (by decide) (hts _ q_250) (u_same (hts _ q_107)) rfl dJx35411_checkForComodification_da8c8_4 ?_
  refine lv_aload_n hx hb dJx35411_checkForComodification_da8c8_7 rfl (lv_at hl 0 rfl) ?_
  refine va_get (D := (dC, dI)) (ci := 1) (v := .int 4) (C := RJx35411) (T := TJx35411) (N := 4) hx hb hts in_Jx35411 hown hK hP 0 rfl rfl 2 (by decide) (hts _ q_251) (fun _ h9 => h9) rfl dJx35411_checkForComodification_da8c8_8 ?_
  refine lv_icmp_eq (tgt := 22) hx hb dJx35411_checkForComodification_da8c8_11 (by decide) (fun _ => ?_) (fun cz => absurd (by decide) cz)
  exact W.vret hx hb hr (fun t9 ht9 hW9 => ⟨⟨(), rfl, trivial, ⟨pq_mk2 hP hD hK [0, 1] [] rfl rfl rfl ht9 hW9, by rw [ht9]; exact Nat.le_trans (Nat.add_le_add_left (Nat.le_of_ble_eq_true rfl) _) hG⟩⟩, hS.F ht9⟩) hS.2.2 dJx35411_checkForComodification_da8c8_22

set_option maxHeartbeats 4000000 in
set_option maxRecDepth 100000 in
theorem k325_next (l : Launch) (hl9 : l.stackTraces = false) (dC : Nat → ClassId) (dI : Nat → Nat → Nat) (z : XZ) (h0 h1 h2 : Nat) (o0 o1 o2 o3 : Nat) (sz : Nat) (kc0 : ClassId) : Met l yJx35411_next_0502b (.code yJx35411_next_0502b cJx35411_next_0502b 3 (some (.object "java/lang/Object")) :: wsL_law) ({ frames := 1, cells := 0, slots := 0, locals := 20 }) (va_Pc [.ref h0] (PC (dC, dI) [(h0, ce171 h1), (h1, ce147 h2), (h2, ce146 kc0 o0 o1 o2 o3)] [(kc0, .object "java/lang/Object")] sz z)) (va_Qr (fun (_ : Unit) => True) (fun (_ : Unit) (ra : Nat) (t : State) => ra = o0 ∧ PG (dC, dI) [(h0, ce173 h1), (h1, ce147 h2), (h2, ce146 kc0 o0 o1 o2 o3)] [(kc0, .object "java/lang/Object")] (va_A [(h0, ce171 h1), (h1, ce147 h2), (h2, ce146 kc0 o0 o1 o2 o3)] sz) sz 0 t) (va_A [(h0, ce171 h1), (h1, ce147 h2), (h2, ce146 kc0 o0 o1 o2 o3)] sz)) 0 0 (va_A [(h0, ce171 h1), (h1, ce147 h2), (h2, ce146 kc0 o0 o1 o2 o3)] sz) := by
  refine Met.ofW (cc := cJx35411_next_0502b) (maxL := 3) (ret := (some (.object "java/lang/Object"))) (by decide) rfl ?_
  intro p e s m args below meth c s₁ B hml hv
  obtain ⟨rfl, hsz, hP, hK, hD0, hX, hT⟩ := hv
  have hx := B.exec
  have hb := B.bytes
  have hr := B.returns
  have hts0 := atoms_spec (ws := .code yJx35411_next_0502b cJx35411_next_0502b 3 (some (.object "java/lang/Object")) :: wsL_law) B.pre
  have hts := xTail hts0
  have hown : s.vm.findClass RJx35411 = some m.cls := xown B.named rfl
  have hlocks := B.notSynchronized
  subst hsz
  have hD := hD0.self (sz := s.heap.size)
  generalize hAe : va_A [(h0, ce171 h1), (h1, ce147 h2), (h2, ce146 kc0 o0 o1 o2 o3)] s.heap.size = A at hD hX ⊢
  have hA : ∀ q : Nat, s.heap.size ≤ q → A q := fun q h => by rw [← hAe]; exact Or.inr h
  have hS : va_S A s.heap s.heap [] := va_S.rf
  have hG : s.heap.size + 0 ≤ s.heap.size := Nat.le_refl _
  have hl := lv_entry ([.ref h0]) (n := 3) (Nat.le_of_ble_eq_true rfl)
  rw [lg_entry_eq]
  generalize (lg_sl ([.ref h0]) ++ List.replicate (3 - (lg_sl ([.ref h0])).length) Slot.unset).toArray = ls at hl ⊢
  have hl : lv_has ls 3 [(0, .ref h0)] := hl
  refine lv_aload_n hx hb dJx35411_next_0502b_0 rfl (lv_at hl 0 rfl) ?_
  have hM3 := k324_checkForComodification l hl9 dC dI z h0 h1 h2 s.heap.size
  obtain ⟨hF1, hC4⟩ := pc_M hM3 hP hD hK hS hX hT hA [0, 1] [] rfl rfl rfl
  refine va_callv (va_runV (As := []) (rest := []) ⟨hx, hb, hml, hown, hts⟩ hM3 (cwV 0 hts (gV q_303 q_304 q_305 q_246 q_302) rfl rfl rfl hV_Jx35411_checkForComodification_da8c8 ⟨Nat.le_of_ble_eq_true rfl, Nat.le_of_ble_eq_true rfl⟩) ⟨pc_blind, va_recv hK hP (ci := 1) (q := (RJx35411, TJx35411, 4)) (q0 := 0) rfl rfl, fun U hU hW => ⟨rfl, hC4 U hU hW⟩⟩ rfl rfl hl.1 rfl (lv_room (Nat.le_of_ble_eq_true rfl)) dJx35411_next_0502b_1 ⟨(Nat.le_of_ble_eq_true rfl), (Nat.le_of_ble_eq_true rfl)⟩) hS (fun q9 _ h9 => hF1 q9 h9) hF1 (fun u5 t5 H5 L5 ht5 hvm5 hw5 hB5 hz5 hk5 hS => ?_)
  have hP := pq_keep hP hD [0, 1] rfl hk5 hB5.1 ht5
  have hG : s.heap.size + 0 ≤ H5.size := Nat.le_trans hG hz5
  refine lv_aload_n hx hb dJx35411_next_0502b_4 rfl (lv_at hl 0 rfl) ?_
  refine va_get (D := (dC, dI)) (ci := 1) (v := .int 0) (C := RJx35411) (T := TJx35411) (N := 4) hx hb hts in_Jx35411 hown hK hP 0 rfl rfl 0 (by decide) (hts _ q_259) (fun _ h9 => h9) rfl dJx35411_next_0502b_5 ?_
  refine lv_istore_n (lv' := [(1, .int 0), (0, .ref h0)]) hx hb dJx35411_next_0502b_8 rfl hl (by decide) rfl (fun ls hl => ?_)
  refine lv_iload_n hx hb dJx35411_next_0502b_9 rfl (lv_at hl 0 rfl) ?_
  refine lv_aload_n hx hb dJx35411_next_0502b_10 rfl (lv_at hl 1 rfl) ?_
  refine va_get (D := (dC, dI)) (ci := 1) (v := .ref h1) (C := RJx35411) (T := TJx35411) (N := 4) hx hb hts in_Jx35411 hown hK hP 0 rfl rfl 3 (by decide) (hts _ q_247) (fun _ h9 => h9) rfl dJx35411_next_0502b_11 ?_
  refine va_getN (D := (dC, dI)) (ci := 0) (v := .int 4) (C := RJx4a65c) (T := TJx4a65c) (N := 3) hx hb hts in_Jx4a65c hown hK hP 1 rfl rfl 2 (by decide) (va_Nw.use rfl hT.2.2.2.2.1) (fun _ h9 => h9) rfl dJx35411_next_0502b_14 ?_
  refine lv_icmp_lt (tgt := 28) hx hb dJx35411_next_0502b_17 (by decide) (fun _ => ?_) (fun cz => absurd (by decide) cz)
  refine lv_aload_n hx hb dJx35411_next_0502b_28 rfl (lv_at hl 1 rfl) ?_
  refine va_get (D := (dC, dI)) (ci := 1) (v := .ref h1) (C := RJx35411) (T := TJx35411) (N := 4) hx hb hts in_Jx35411 hown hK hP 0 rfl rfl 3 (by decide) (hts _ q_247) (fun _ h9 => h9) rfl dJx35411_next_0502b_29 ?_
  refine va_get (D := (dC, dI)) (ci := 0) (v := .ref h2) (C := RJx4a65c) (T := TJx4a65c) (N := 3) hx hb hts in_Jx4a65c hown hK hP 1 rfl rfl 1 (by decide) (hts _ q_306) (fun _ h9 => h9) rfl dJx35411_next_0502b_32 ?_
  refine lv_astore_n (lv' := [(2, .ref h2), (1, .int 0), (0, .ref h0)]) hx hb dJx35411_next_0502b_35 rfl hl (by decide) rfl (fun ls hl => ?_)
  refine lv_iload_n hx hb dJx35411_next_0502b_36 rfl (lv_at hl 1 rfl) ?_
  refine lv_aload_n hx hb dJx35411_next_0502b_37 rfl (lv_at hl 0 rfl) ?_
  refine va_alen hx hb hK hP 2 0 rfl rfl (v := 10) rfl dJx35411_next_0502b_38 ?_
  refine lv_icmp_lt (tgt := 50) hx hb dJx35411_next_0502b_39 (by decide) (fun _ => ?_) (fun cz => absurd (by decide) cz)
  refine lv_aload_n hx hb dJx35411_next_0502b_50 rfl (lv_at hl 2 rfl) ?_
  refine lv_iload_n hx hb dJx35411_next_0502b_51 rfl (lv_at hl 1 rfl) ?_
  refine lv_iconst (v := 1) hx hb dJx35411_next_0502b_52 (by decide) ?_
  refine lv_iadd hx hb dJx35411_next_0502b_53 ?_
  refine lv_topi (fun y7 ey7 => ?_)
  obtain rfl : y7 = 1 := ey7.trans (by decide)
  refine va_put (D := (dC, dI)) (ci := 1) (v := .int 1) (ty := .int) (C := RJx35411) (T := TJx35411) (N := 4) hx hb hts in_Jx35411 tyJx35411 tyJx35411_ok nmJx35411 hown hK hP hD (va_Sre hS) 0 rfl rfl 0 (by decide) (hts _ q_259) (fun _ h9 => h9) rfl (by decide +kernel) rfl rfl (Nat.le_of_ble_eq_true rfl) dJx35411_next_0502b_54 (fun H8 _ hP hD hS' => ?_)
  have hG : s.heap.size + 0 ≤ H8.size := Nat.le_trans hG hS'.1
  have hS := va_Str hS hS'
  have hP : va_P (dC, dI) xCl [(h0, ce172 h1), (h1, ce147 h2), (h2, ce146 kc0 o0 o1 o2 o3)] H8 := hP
  have hD := vd_as hP hD rfl
  refine lv_aload_n hx hb dJx35411_next_0502b_57 rfl (lv_at hl 0 rfl) ?_
  refine lv_aload_n hx hb dJx35411_next_0502b_58 rfl (lv_at hl 2 rfl) ?_
  refine lv_iload_n hx hb dJx35411_next_0502b_59 rfl (lv_at hl 1 rfl) ?_
  refine lv_dup_x1 hx hb dJx35411_next_0502b_60 rfl rfl ?_
  refine va_put (D := (dC, dI)) (ci := 1) (v := .int 0) (ty := .int) (C := RJx35411) (T := TJx35411) (N := 4) hx hb hts in_Jx35411 tyJx35411 tyJx35411_ok nmJx35411 hown hK hP hD (va_Sre hS) 0 rfl rfl 1 (by decide) (hts _ q_249) (fun _ h9 => h9) rfl (by decide +kernel) rfl rfl (Nat.le_of_ble_eq_true rfl) dJx35411_next_0502b_61 (fun H9 _ hP hD hS' => ?_)
  have hG : s.heap.size + 0 ≤ H9.size := Nat.le_trans hG hS'.1
  have hS := va_Str hS hS'
  have hP : va_P (dC, dI) xCl [(h0, ce173 h1), (h1, ce147 h2), (h2, ce146 kc0 o0 o1 o2 o3)] H9 := hP
  have hD := vd_as hP hD rfl
  refine va_aldq hx hb hK hP 2 0 rfl rfl (i := 0) (by unfold vp_in; decide) dJx35411_next_0502b_64 ?_
  refine W.eq (g2 := F0 m 65 ls [.ref o0]) rfl ?_
  exact W.aret (v := .ref o0) hx hb hr (by first | exact Or.inl ⟨_, rfl⟩ | exact Or.inr ⟨_, rfl⟩) (Or.inr ⟨_, rfl⟩) (fun t9 ht9 hW9 => ⟨⟨(), o0, rfl, trivial, ⟨rfl, ⟨pq_mk2 hP hD hK [0, 1, 2] [0] rfl rfl rfl ht9 hW9, by rw [ht9]; exact Nat.le_trans (Nat.add_le_add_left (Nat.le_of_ble_eq_true rfl) _) hG⟩⟩⟩, hS.F ht9⟩) hS.2.2 dJx35411_next_0502b_65

set_option maxHeartbeats 4000000 in
set_option maxRecDepth 100000 in
theorem k326_hasNext (l : Launch) (hl9 : l.stackTraces = false) (dC : Nat → ClassId) (dI : Nat → Nat → Nat) (z : XZ) (h0 h1 : Nat) (o0 : Nat) (sz : Nat) : Met l yJx35411_hasNext_aae02 (.code yJx35411_hasNext_aae02 cJx35411_hasNext_aae02 1 (some .boolean) :: wsL_law) ({ frames := 0, cells := 0, slots := 0, locals := 0 }) (va_Pc [.ref h0] (PC (dC, dI) [(h0, ce173 h1), (h1, ce147 o0)] [] sz z)) (va_Qi (fun (r : Int32) (_ : Unit) => r = 1) (fun (_ : Unit) (t : State) => PG (dC, dI) [(h0, ce173 h1), (h1, ce147 o0)] [] (va_A [(h0, ce173 h1), (h1, ce147 o0)] sz) sz 0 t) (va_A [(h0, ce173 h1), (h1, ce147 o0)] sz)) 0 0 (va_A [(h0, ce173 h1), (h1, ce147 o0)] sz) := by
  refine Met.ofW (cc := cJx35411_hasNext_aae02) (maxL := 1) (ret := (some .boolean)) (by decide) rfl ?_
  intro p e s m args below meth c s₁ B hml hv
  obtain ⟨rfl, hsz, hP, hK, hD0, hX, hT⟩ := hv
  have hx := B.exec
  have hb := B.bytes
  have hr := B.returns
  have hts0 := atoms_spec (ws := .code yJx35411_hasNext_aae02 cJx35411_hasNext_aae02 1 (some .boolean) :: wsL_law) B.pre
  have hts := xTail hts0
  have hown : s.vm.findClass RJx35411 = some m.cls := xown B.named rfl
  have hlocks := B.notSynchronized
  subst hsz
  have hD := hD0.self (sz := s.heap.size)
  generalize hAe : va_A [(h0, ce173 h1), (h1, ce147 o0)] s.heap.size = A at hD hX ⊢
  have hA : ∀ q : Nat, s.heap.size ≤ q → A q := fun q h => by rw [← hAe]; exact Or.inr h
  have hS : va_S A s.heap s.heap [] := va_S.rf
  have hG : s.heap.size + 0 ≤ s.heap.size := Nat.le_refl _
  have hl := lv_entry ([.ref h0]) (n := 1) (Nat.le_of_ble_eq_true rfl)
  rw [lg_entry_eq]
  generalize (lg_sl ([.ref h0]) ++ List.replicate (1 - (lg_sl ([.ref h0])).length) Slot.unset).toArray = ls at hl ⊢
  have hl : lv_has ls 1 [(0, .ref h0)] := hl
  refine lv_aload_n hx hb dJx35411_hasNext_aae02_0 rfl (lv_at hl 0 rfl) ?_
  refine va_get (D := (dC, dI)) (ci := 1) (v := .int 1) (C := RJx35411) (T := TJx35411) (N := 4) hx hb hts in_Jx35411 hown hK hP 0 rfl rfl 0 (by decide) (hts _ q_259) (fun _ h9 => h9) rfl dJx35411_hasNext_aae02_1 ?_
  refine lv_aload_n hx hb dJx35411_hasNext_aae02_4 rfl (lv_at hl 0 rfl) ?_
  refine va_get (D := (dC, dI)) (ci := 1) (v := .ref h1) (C := RJx35411) (T := TJx35411) (N := 4) hx hb hts in_Jx35411 hown hK hP 0 rfl rfl 3 (by decide) (hts _ q_247) (fun _ h9 => h9) rfl dJx35411_hasNext_aae02_5 ?_
  refine va_getN (D := (dC, dI)) (ci := 0) (v := .int 4) (C := RJx4a65c) (T := TJx4a65c) (N := 3) hx hb hts in_Jx4a65c hown hK hP 1 rfl rfl 2 (by decide) (va_Nw.use rfl hT.2.2.2.2.1) (fun _ h9 => h9) rfl dJx35411_hasNext_aae02_8 ?_
  refine lv_icmp_eq (tgt := 18) hx hb dJx35411_hasNext_aae02_11 (by decide) (fun cz => absurd cz (by decide)) (fun _ => ?_)
  refine lv_iconst (v := 1) hx hb dJx35411_hasNext_aae02_14 (by decide) ?_
  refine lv_goto (tgt := 19) hx hb dJx35411_hasNext_aae02_15 (by decide) ?_
  exact W.zret (v := 1) (ty := .boolean) hx hb hr rfl (fun t9 ht9 hW9 => ⟨⟨1, (), rfl, rfl, ⟨pq_mk2 hP hD hK [0, 1] [] rfl rfl rfl ht9 hW9, by rw [ht9]; exact Nat.le_trans (Nat.add_le_add_left (Nat.le_of_ble_eq_true rfl) _) hG⟩⟩, hS.F ht9⟩) hS.2.2 dJx35411_hasNext_aae02_19

set_option maxHeartbeats 4000000 in
set_option maxRecDepth 100000 in
theorem k327_checkForComodification (l : Launch) (hl9 : l.stackTraces = false) (dC : Nat → ClassId) (dI : Nat → Nat → Nat) (z : XZ) (h0 h1 : Nat) (o0 : Nat) (sz : Nat) : Met l yJx35411_checkForComodification_da8c8 (.code yJx35411_checkForComodification_da8c8 cJx35411_checkForComodification_da8c8 1 none :: wsL_law) ({ frames := 0, cells := 0, slots := 0, locals := 0 }) (va_Pc [.ref h0] (PC (dC, dI) [(h0, ce173 h1), (h1, ce147 o0)] [] sz z)) (va_Qv (fun (_ : Unit) => True) (fun (_ : Unit) (t : State) => PG (dC, dI) [(h0, ce173 h1), (h1, ce147 o0)] [] (va_A [(h0, ce173 h1), (h1, ce147 o0)] sz) sz 0 t) (va_A [(h0, ce173 h1), (h1, ce147 o0)] sz)) 0 0 (va_A [(h0, ce173 h1), (h1, ce147 o0)] sz) := by
  refine Met.ofW (cc := cJx35411_checkForComodification_da8c8) (maxL := 1) (ret := none) (by decide) rfl ?_
  intro p e s m args below meth c s₁ B hml hv
  obtain ⟨rfl, hsz, hP, hK, hD0, hX, hT⟩ := hv
  have hx := B.exec
  have hb := B.bytes
  have hr := B.returns
  have hts0 := atoms_spec (ws := .code yJx35411_checkForComodification_da8c8 cJx35411_checkForComodification_da8c8 1 none :: wsL_law) B.pre
  have hts := xTail hts0
  have hown : s.vm.findClass RJx35411 = some m.cls := xown B.named rfl
  have hlocks := B.notSynchronized
  subst hsz
  have hD := hD0.self (sz := s.heap.size)
  generalize hAe : va_A [(h0, ce173 h1), (h1, ce147 o0)] s.heap.size = A at hD hX ⊢
  have hA : ∀ q : Nat, s.heap.size ≤ q → A q := fun q h => by rw [← hAe]; exact Or.inr h
  have hS : va_S A s.heap s.heap [] := va_S.rf
  have hG : s.heap.size + 0 ≤ s.heap.size := Nat.le_refl _
  have hl := lv_entry ([.ref h0]) (n := 1) (Nat.le_of_ble_eq_true rfl)
  rw [lg_entry_eq]
  generalize (lg_sl ([.ref h0]) ++ List.replicate (1 - (lg_sl ([.ref h0])).length) Slot.unset).toArray = ls at hl ⊢
  have hl : lv_has ls 1 [(0, .ref h0)] := hl
  refine lv_aload_n hx hb dJx35411_checkForComodification_da8c8_0 rfl (lv_at hl 0 rfl) ?_
  refine va_get (D := (dC, dI)) (ci := 1) (v := .ref h1) (C := RJx35411) (T := TJx35411) (N := 4) hx hb hts in_Jx35411 hown hK hP 0 rfl rfl 3 (by decide) (hts _ q_247) (fun _ h9 => h9) rfl dJx35411_checkForComodification_da8c8_1 ?_
  refine va_get (D := (dC, dI)) (ci := 0) (v := .int 4) (C := RJx4a65c) (T := TJx4a65c) (N := 3) hx hb hts in_Jx4a65c hown hK hP 1 rfl rfl 0 (by decide) (hts _ q_250) (u_same (hts _ q_107)) rfl dJx35411_checkForComodification_da8c8_4 ?_
  refine lv_aload_n hx hb dJx35411_checkForComodification_da8c8_7 rfl (lv_at hl 0 rfl) ?_
  refine va_get (D := (dC, dI)) (ci := 1) (v := .int 4) (C := RJx35411) (T := TJx35411) (N := 4) hx hb hts in_Jx35411 hown hK hP 0 rfl rfl 2 (by decide) (hts _ q_251) (fun _ h9 => h9) rfl dJx35411_checkForComodification_da8c8_8 ?_
  refine lv_icmp_eq (tgt := 22) hx hb dJx35411_checkForComodification_da8c8_11 (by decide) (fun _ => ?_) (fun cz => absurd (by decide) cz)
  exact W.vret hx hb hr (fun t9 ht9 hW9 => ⟨⟨(), rfl, trivial, ⟨pq_mk2 hP hD hK [0, 1] [] rfl rfl rfl ht9 hW9, by rw [ht9]; exact Nat.le_trans (Nat.add_le_add_left (Nat.le_of_ble_eq_true rfl) _) hG⟩⟩, hS.F ht9⟩) hS.2.2 dJx35411_checkForComodification_da8c8_22

set_option maxHeartbeats 4000000 in
set_option maxRecDepth 100000 in
theorem k328_next (l : Launch) (hl9 : l.stackTraces = false) (dC : Nat → ClassId) (dI : Nat → Nat → Nat) (z : XZ) (h0 h1 h2 : Nat) (o0 o1 o2 o3 : Nat) (sz : Nat) (kc0 : ClassId) : Met l yJx35411_next_0502b (.code yJx35411_next_0502b cJx35411_next_0502b 3 (some (.object "java/lang/Object")) :: wsL_law) ({ frames := 1, cells := 0, slots := 0, locals := 20 }) (va_Pc [.ref h0] (PC (dC, dI) [(h0, ce173 h1), (h1, ce147 h2), (h2, ce146 kc0 o0 o1 o2 o3)] [(kc0, .object "java/lang/Object")] sz z)) (va_Qr (fun (_ : Unit) => True) (fun (_ : Unit) (ra : Nat) (t : State) => ra = o1 ∧ PG (dC, dI) [(h0, ce175 h1), (h1, ce147 h2), (h2, ce146 kc0 o0 o1 o2 o3)] [(kc0, .object "java/lang/Object")] (va_A [(h0, ce173 h1), (h1, ce147 h2), (h2, ce146 kc0 o0 o1 o2 o3)] sz) sz 0 t) (va_A [(h0, ce173 h1), (h1, ce147 h2), (h2, ce146 kc0 o0 o1 o2 o3)] sz)) 0 0 (va_A [(h0, ce173 h1), (h1, ce147 h2), (h2, ce146 kc0 o0 o1 o2 o3)] sz) := by
  refine Met.ofW (cc := cJx35411_next_0502b) (maxL := 3) (ret := (some (.object "java/lang/Object"))) (by decide) rfl ?_
  intro p e s m args below meth c s₁ B hml hv
  obtain ⟨rfl, hsz, hP, hK, hD0, hX, hT⟩ := hv
  have hx := B.exec
  have hb := B.bytes
  have hr := B.returns
  have hts0 := atoms_spec (ws := .code yJx35411_next_0502b cJx35411_next_0502b 3 (some (.object "java/lang/Object")) :: wsL_law) B.pre
  have hts := xTail hts0
  have hown : s.vm.findClass RJx35411 = some m.cls := xown B.named rfl
  have hlocks := B.notSynchronized
  subst hsz
  have hD := hD0.self (sz := s.heap.size)
  generalize hAe : va_A [(h0, ce173 h1), (h1, ce147 h2), (h2, ce146 kc0 o0 o1 o2 o3)] s.heap.size = A at hD hX ⊢
  have hA : ∀ q : Nat, s.heap.size ≤ q → A q := fun q h => by rw [← hAe]; exact Or.inr h
  have hS : va_S A s.heap s.heap [] := va_S.rf
  have hG : s.heap.size + 0 ≤ s.heap.size := Nat.le_refl _
  have hl := lv_entry ([.ref h0]) (n := 3) (Nat.le_of_ble_eq_true rfl)
  rw [lg_entry_eq]
  generalize (lg_sl ([.ref h0]) ++ List.replicate (3 - (lg_sl ([.ref h0])).length) Slot.unset).toArray = ls at hl ⊢
  have hl : lv_has ls 3 [(0, .ref h0)] := hl
  refine lv_aload_n hx hb dJx35411_next_0502b_0 rfl (lv_at hl 0 rfl) ?_
  have hM3 := k327_checkForComodification l hl9 dC dI z h0 h1 h2 s.heap.size
  obtain ⟨hF1, hC4⟩ := pc_M hM3 hP hD hK hS hX hT hA [0, 1] [] rfl rfl rfl
  refine va_callv (va_runV (As := []) (rest := []) ⟨hx, hb, hml, hown, hts⟩ hM3 (cwV 0 hts (gV q_303 q_304 q_305 q_246 q_302) rfl rfl rfl hV_Jx35411_checkForComodification_da8c8 ⟨Nat.le_of_ble_eq_true rfl, Nat.le_of_ble_eq_true rfl⟩) ⟨pc_blind, va_recv hK hP (ci := 1) (q := (RJx35411, TJx35411, 4)) (q0 := 0) rfl rfl, fun U hU hW => ⟨rfl, hC4 U hU hW⟩⟩ rfl rfl hl.1 rfl (lv_room (Nat.le_of_ble_eq_true rfl)) dJx35411_next_0502b_1 ⟨(Nat.le_of_ble_eq_true rfl), (Nat.le_of_ble_eq_true rfl)⟩) hS (fun q9 _ h9 => hF1 q9 h9) hF1 (fun u5 t5 H5 L5 ht5 hvm5 hw5 hB5 hz5 hk5 hS => ?_)
  have hP := pq_keep hP hD [0, 1] rfl hk5 hB5.1 ht5
  have hG : s.heap.size + 0 ≤ H5.size := Nat.le_trans hG hz5
  refine lv_aload_n hx hb dJx35411_next_0502b_4 rfl (lv_at hl 0 rfl) ?_
  refine va_get (D := (dC, dI)) (ci := 1) (v := .int 1) (C := RJx35411) (T := TJx35411) (N := 4) hx hb hts in_Jx35411 hown hK hP 0 rfl rfl 0 (by decide) (hts _ q_259) (fun _ h9 => h9) rfl dJx35411_next_0502b_5 ?_
  refine lv_istore_n (lv' := [(1, .int 1), (0, .ref h0)]) hx hb dJx35411_next_0502b_8 rfl hl (by decide) rfl (fun ls hl => ?_)
  refine lv_iload_n hx hb dJx35411_next_0502b_9 rfl (lv_at hl 0 rfl) ?_
  refine lv_aload_n hx hb dJx35411_next_0502b_10 rfl (lv_at hl 1 rfl) ?_
  refine va_get (D := (dC, dI)) (ci := 1) (v := .ref h1) (C := RJx35411) (T := TJx35411) (N := 4) hx hb hts in_Jx35411 hown hK hP 0 rfl rfl 3 (by decide) (hts _ q_247) (fun _ h9 => h9) rfl dJx35411_next_0502b_11 ?_
  refine va_getN (D := (dC, dI)) (ci := 0) (v := .int 4) (C := RJx4a65c) (T := TJx4a65c) (N := 3) hx hb hts in_Jx4a65c hown hK hP 1 rfl rfl 2 (by decide) (va_Nw.use rfl hT.2.2.2.2.1) (fun _ h9 => h9) rfl dJx35411_next_0502b_14 ?_
  refine lv_icmp_lt (tgt := 28) hx hb dJx35411_next_0502b_17 (by decide) (fun _ => ?_) (fun cz => absurd (by decide) cz)
  refine lv_aload_n hx hb dJx35411_next_0502b_28 rfl (lv_at hl 1 rfl) ?_
  refine va_get (D := (dC, dI)) (ci := 1) (v := .ref h1) (C := RJx35411) (T := TJx35411) (N := 4) hx hb hts in_Jx35411 hown hK hP 0 rfl rfl 3 (by decide) (hts _ q_247) (fun _ h9 => h9) rfl dJx35411_next_0502b_29 ?_
  refine va_get (D := (dC, dI)) (ci := 0) (v := .ref h2) (C := RJx4a65c) (T := TJx4a65c) (N := 3) hx hb hts in_Jx4a65c hown hK hP 1 rfl rfl 1 (by decide) (hts _ q_306) (fun _ h9 => h9) rfl dJx35411_next_0502b_32 ?_
  refine lv_astore_n (lv' := [(2, .ref h2), (1, .int 1), (0, .ref h0)]) hx hb dJx35411_next_0502b_35 rfl hl (by decide) rfl (fun ls hl => ?_)
  refine lv_iload_n hx hb dJx35411_next_0502b_36 rfl (lv_at hl 1 rfl) ?_
  refine lv_aload_n hx hb dJx35411_next_0502b_37 rfl (lv_at hl 0 rfl) ?_
  refine va_alen hx hb hK hP 2 0 rfl rfl (v := 10) rfl dJx35411_next_0502b_38 ?_
  refine lv_icmp_lt (tgt := 50) hx hb dJx35411_next_0502b_39 (by decide) (fun _ => ?_) (fun cz => absurd (by decide) cz)
  refine lv_aload_n hx hb dJx35411_next_0502b_50 rfl (lv_at hl 2 rfl) ?_
  refine lv_iload_n hx hb dJx35411_next_0502b_51 rfl (lv_at hl 1 rfl) ?_
  refine lv_iconst (v := 1) hx hb dJx35411_next_0502b_52 (by decide) ?_
  refine lv_iadd hx hb dJx35411_next_0502b_53 ?_
  refine lv_topi (fun y7 ey7 => ?_)
  obtain rfl : y7 = 2 := ey7.trans (by decide)
  refine va_put (D := (dC, dI)) (ci := 1) (v := .int 2) (ty := .int) (C := RJx35411) (T := TJx35411) (N := 4) hx hb hts in_Jx35411 tyJx35411 tyJx35411_ok nmJx35411 hown hK hP hD (va_Sre hS) 0 rfl rfl 0 (by decide) (hts _ q_259) (fun _ h9 => h9) rfl (by decide +kernel) rfl rfl (Nat.le_of_ble_eq_true rfl) dJx35411_next_0502b_54 (fun H8 _ hP hD hS' => ?_)
  have hG : s.heap.size + 0 ≤ H8.size := Nat.le_trans hG hS'.1
  have hS := va_Str hS hS'
  have hP : va_P (dC, dI) xCl [(h0, ce174 h1), (h1, ce147 h2), (h2, ce146 kc0 o0 o1 o2 o3)] H8 := hP
  have hD := vd_as hP hD rfl
  refine lv_aload_n hx hb dJx35411_next_0502b_57 rfl (lv_at hl 0 rfl) ?_
  refine lv_aload_n hx hb dJx35411_next_0502b_58 rfl (lv_at hl 2 rfl) ?_
  refine lv_iload_n hx hb dJx35411_next_0502b_59 rfl (lv_at hl 1 rfl) ?_
  refine lv_dup_x1 hx hb dJx35411_next_0502b_60 rfl rfl ?_
  refine va_put (D := (dC, dI)) (ci := 1) (v := .int 1) (ty := .int) (C := RJx35411) (T := TJx35411) (N := 4) hx hb hts in_Jx35411 tyJx35411 tyJx35411_ok nmJx35411 hown hK hP hD (va_Sre hS) 0 rfl rfl 1 (by decide) (hts _ q_249) (fun _ h9 => h9) rfl (by decide +kernel) rfl rfl (Nat.le_of_ble_eq_true rfl) dJx35411_next_0502b_61 (fun H9 _ hP hD hS' => ?_)
  have hG : s.heap.size + 0 ≤ H9.size := Nat.le_trans hG hS'.1
  have hS := va_Str hS hS'
  have hP : va_P (dC, dI) xCl [(h0, ce175 h1), (h1, ce147 h2), (h2, ce146 kc0 o0 o1 o2 o3)] H9 := hP
  have hD := vd_as hP hD rfl
  refine va_aldq hx hb hK hP 2 0 rfl rfl (i := 1) (by unfold vp_in; decide) dJx35411_next_0502b_64 ?_
  refine W.eq (g2 := F0 m 65 ls [.ref o1]) rfl ?_
  exact W.aret (v := .ref o1) hx hb hr (by first | exact Or.inl ⟨_, rfl⟩ | exact Or.inr ⟨_, rfl⟩) (Or.inr ⟨_, rfl⟩) (fun t9 ht9 hW9 => ⟨⟨(), o1, rfl, trivial, ⟨rfl, ⟨pq_mk2 hP hD hK [0, 1, 2] [0] rfl rfl rfl ht9 hW9, by rw [ht9]; exact Nat.le_trans (Nat.add_le_add_left (Nat.le_of_ble_eq_true rfl) _) hG⟩⟩⟩, hS.F ht9⟩) hS.2.2 dJx35411_next_0502b_65

set_option maxHeartbeats 4000000 in
set_option maxRecDepth 100000 in
theorem k329_hasNext (l : Launch) (hl9 : l.stackTraces = false) (dC : Nat → ClassId) (dI : Nat → Nat → Nat) (z : XZ) (h0 h1 : Nat) (o0 : Nat) (sz : Nat) : Met l yJx35411_hasNext_aae02 (.code yJx35411_hasNext_aae02 cJx35411_hasNext_aae02 1 (some .boolean) :: wsL_law) ({ frames := 0, cells := 0, slots := 0, locals := 0 }) (va_Pc [.ref h0] (PC (dC, dI) [(h0, ce175 h1), (h1, ce147 o0)] [] sz z)) (va_Qi (fun (r : Int32) (_ : Unit) => r = 1) (fun (_ : Unit) (t : State) => PG (dC, dI) [(h0, ce175 h1), (h1, ce147 o0)] [] (va_A [(h0, ce175 h1), (h1, ce147 o0)] sz) sz 0 t) (va_A [(h0, ce175 h1), (h1, ce147 o0)] sz)) 0 0 (va_A [(h0, ce175 h1), (h1, ce147 o0)] sz) := by
  refine Met.ofW (cc := cJx35411_hasNext_aae02) (maxL := 1) (ret := (some .boolean)) (by decide) rfl ?_
  intro p e s m args below meth c s₁ B hml hv
  obtain ⟨rfl, hsz, hP, hK, hD0, hX, hT⟩ := hv
  have hx := B.exec
  have hb := B.bytes
  have hr := B.returns
  have hts0 := atoms_spec (ws := .code yJx35411_hasNext_aae02 cJx35411_hasNext_aae02 1 (some .boolean) :: wsL_law) B.pre
  have hts := xTail hts0
  have hown : s.vm.findClass RJx35411 = some m.cls := xown B.named rfl
  have hlocks := B.notSynchronized
  subst hsz
  have hD := hD0.self (sz := s.heap.size)
  generalize hAe : va_A [(h0, ce175 h1), (h1, ce147 o0)] s.heap.size = A at hD hX ⊢
  have hA : ∀ q : Nat, s.heap.size ≤ q → A q := fun q h => by rw [← hAe]; exact Or.inr h
  have hS : va_S A s.heap s.heap [] := va_S.rf
  have hG : s.heap.size + 0 ≤ s.heap.size := Nat.le_refl _
  have hl := lv_entry ([.ref h0]) (n := 1) (Nat.le_of_ble_eq_true rfl)
  rw [lg_entry_eq]
  generalize (lg_sl ([.ref h0]) ++ List.replicate (1 - (lg_sl ([.ref h0])).length) Slot.unset).toArray = ls at hl ⊢
  have hl : lv_has ls 1 [(0, .ref h0)] := hl
  refine lv_aload_n hx hb dJx35411_hasNext_aae02_0 rfl (lv_at hl 0 rfl) ?_
  refine va_get (D := (dC, dI)) (ci := 1) (v := .int 2) (C := RJx35411) (T := TJx35411) (N := 4) hx hb hts in_Jx35411 hown hK hP 0 rfl rfl 0 (by decide) (hts _ q_259) (fun _ h9 => h9) rfl dJx35411_hasNext_aae02_1 ?_
  refine lv_aload_n hx hb dJx35411_hasNext_aae02_4 rfl (lv_at hl 0 rfl) ?_
  refine va_get (D := (dC, dI)) (ci := 1) (v := .ref h1) (C := RJx35411) (T := TJx35411) (N := 4) hx hb hts in_Jx35411 hown hK hP 0 rfl rfl 3 (by decide) (hts _ q_247) (fun _ h9 => h9) rfl dJx35411_hasNext_aae02_5 ?_
  refine va_getN (D := (dC, dI)) (ci := 0) (v := .int 4) (C := RJx4a65c) (T := TJx4a65c) (N := 3) hx hb hts in_Jx4a65c hown hK hP 1 rfl rfl 2 (by decide) (va_Nw.use rfl hT.2.2.2.2.1) (fun _ h9 => h9) rfl dJx35411_hasNext_aae02_8 ?_
  refine lv_icmp_eq (tgt := 18) hx hb dJx35411_hasNext_aae02_11 (by decide) (fun cz => absurd cz (by decide)) (fun _ => ?_)
  refine lv_iconst (v := 1) hx hb dJx35411_hasNext_aae02_14 (by decide) ?_
  refine lv_goto (tgt := 19) hx hb dJx35411_hasNext_aae02_15 (by decide) ?_
  exact W.zret (v := 1) (ty := .boolean) hx hb hr rfl (fun t9 ht9 hW9 => ⟨⟨1, (), rfl, rfl, ⟨pq_mk2 hP hD hK [0, 1] [] rfl rfl rfl ht9 hW9, by rw [ht9]; exact Nat.le_trans (Nat.add_le_add_left (Nat.le_of_ble_eq_true rfl) _) hG⟩⟩, hS.F ht9⟩) hS.2.2 dJx35411_hasNext_aae02_19

set_option maxHeartbeats 4000000 in
set_option maxRecDepth 100000 in
theorem k330_checkForComodification (l : Launch) (hl9 : l.stackTraces = false) (dC : Nat → ClassId) (dI : Nat → Nat → Nat) (z : XZ) (h0 h1 : Nat) (o0 : Nat) (sz : Nat) : Met l yJx35411_checkForComodification_da8c8 (.code yJx35411_checkForComodification_da8c8 cJx35411_checkForComodification_da8c8 1 none :: wsL_law) ({ frames := 0, cells := 0, slots := 0, locals := 0 }) (va_Pc [.ref h0] (PC (dC, dI) [(h0, ce175 h1), (h1, ce147 o0)] [] sz z)) (va_Qv (fun (_ : Unit) => True) (fun (_ : Unit) (t : State) => PG (dC, dI) [(h0, ce175 h1), (h1, ce147 o0)] [] (va_A [(h0, ce175 h1), (h1, ce147 o0)] sz) sz 0 t) (va_A [(h0, ce175 h1), (h1, ce147 o0)] sz)) 0 0 (va_A [(h0, ce175 h1), (h1, ce147 o0)] sz) := by
  refine Met.ofW (cc := cJx35411_checkForComodification_da8c8) (maxL := 1) (ret := none) (by decide) rfl ?_
  intro p e s m args below meth c s₁ B hml hv
  obtain ⟨rfl, hsz, hP, hK, hD0, hX, hT⟩ := hv
  have hx := B.exec
  have hb := B.bytes
  have hr := B.returns
  have hts0 := atoms_spec (ws := .code yJx35411_checkForComodification_da8c8 cJx35411_checkForComodification_da8c8 1 none :: wsL_law) B.pre
  have hts := xTail hts0
  have hown : s.vm.findClass RJx35411 = some m.cls := xown B.named rfl
  have hlocks := B.notSynchronized
  subst hsz
  have hD := hD0.self (sz := s.heap.size)
  generalize hAe : va_A [(h0, ce175 h1), (h1, ce147 o0)] s.heap.size = A at hD hX ⊢
  have hA : ∀ q : Nat, s.heap.size ≤ q → A q := fun q h => by rw [← hAe]; exact Or.inr h
  have hS : va_S A s.heap s.heap [] := va_S.rf
  have hG : s.heap.size + 0 ≤ s.heap.size := Nat.le_refl _
  have hl := lv_entry ([.ref h0]) (n := 1) (Nat.le_of_ble_eq_true rfl)
  rw [lg_entry_eq]
  generalize (lg_sl ([.ref h0]) ++ List.replicate (1 - (lg_sl ([.ref h0])).length) Slot.unset).toArray = ls at hl ⊢
  have hl : lv_has ls 1 [(0, .ref h0)] := hl
  refine lv_aload_n hx hb dJx35411_checkForComodification_da8c8_0 rfl (lv_at hl 0 rfl) ?_
  refine va_get (D := (dC, dI)) (ci := 1) (v := .ref h1) (C := RJx35411) (T := TJx35411) (N := 4) hx hb hts in_Jx35411 hown hK hP 0 rfl rfl 3 (by decide) (hts _ q_247) (fun _ h9 => h9) rfl dJx35411_checkForComodification_da8c8_1 ?_
  refine va_get (D := (dC, dI)) (ci := 0) (v := .int 4) (C := RJx4a65c) (T := TJx4a65c) (N := 3) hx hb hts in_Jx4a65c hown hK hP 1 rfl rfl 0 (by decide) (hts _ q_250) (u_same (hts _ q_107)) rfl dJx35411_checkForComodification_da8c8_4 ?_
  refine lv_aload_n hx hb dJx35411_checkForComodification_da8c8_7 rfl (lv_at hl 0 rfl) ?_
  refine va_get (D := (dC, dI)) (ci := 1) (v := .int 4) (C := RJx35411) (T := TJx35411) (N := 4) hx hb hts in_Jx35411 hown hK hP 0 rfl rfl 2 (by decide) (hts _ q_251) (fun _ h9 => h9) rfl dJx35411_checkForComodification_da8c8_8 ?_
  refine lv_icmp_eq (tgt := 22) hx hb dJx35411_checkForComodification_da8c8_11 (by decide) (fun _ => ?_) (fun cz => absurd (by decide) cz)
  exact W.vret hx hb hr (fun t9 ht9 hW9 => ⟨⟨(), rfl, trivial, ⟨pq_mk2 hP hD hK [0, 1] [] rfl rfl rfl ht9 hW9, by rw [ht9]; exact Nat.le_trans (Nat.add_le_add_left (Nat.le_of_ble_eq_true rfl) _) hG⟩⟩, hS.F ht9⟩) hS.2.2 dJx35411_checkForComodification_da8c8_22

set_option maxHeartbeats 4000000 in
set_option maxRecDepth 100000 in
theorem k331_next (l : Launch) (hl9 : l.stackTraces = false) (dC : Nat → ClassId) (dI : Nat → Nat → Nat) (z : XZ) (h0 h1 h2 : Nat) (o0 o1 o2 o3 : Nat) (sz : Nat) (kc0 : ClassId) : Met l yJx35411_next_0502b (.code yJx35411_next_0502b cJx35411_next_0502b 3 (some (.object "java/lang/Object")) :: wsL_law) ({ frames := 1, cells := 0, slots := 0, locals := 20 }) (va_Pc [.ref h0] (PC (dC, dI) [(h0, ce175 h1), (h1, ce147 h2), (h2, ce146 kc0 o0 o1 o2 o3)] [(kc0, .object "java/lang/Object")] sz z)) (va_Qr (fun (_ : Unit) => True) (fun (_ : Unit) (ra : Nat) (t : State) => ra = o2 ∧ PG (dC, dI) [(h0, ce177 h1), (h1, ce147 h2), (h2, ce146 kc0 o0 o1 o2 o3)] [(kc0, .object "java/lang/Object")] (va_A [(h0, ce175 h1), (h1, ce147 h2), (h2, ce146 kc0 o0 o1 o2 o3)] sz) sz 0 t) (va_A [(h0, ce175 h1), (h1, ce147 h2), (h2, ce146 kc0 o0 o1 o2 o3)] sz)) 0 0 (va_A [(h0, ce175 h1), (h1, ce147 h2), (h2, ce146 kc0 o0 o1 o2 o3)] sz) := by
  refine Met.ofW (cc := cJx35411_next_0502b) (maxL := 3) (ret := (some (.object "java/lang/Object"))) (by decide) rfl ?_
  intro p e s m args below meth c s₁ B hml hv
  obtain ⟨rfl, hsz, hP, hK, hD0, hX, hT⟩ := hv
  have hx := B.exec
  have hb := B.bytes
  have hr := B.returns
  have hts0 := atoms_spec (ws := .code yJx35411_next_0502b cJx35411_next_0502b 3 (some (.object "java/lang/Object")) :: wsL_law) B.pre
  have hts := xTail hts0
  have hown : s.vm.findClass RJx35411 = some m.cls := xown B.named rfl
  have hlocks := B.notSynchronized
  subst hsz
  have hD := hD0.self (sz := s.heap.size)
  generalize hAe : va_A [(h0, ce175 h1), (h1, ce147 h2), (h2, ce146 kc0 o0 o1 o2 o3)] s.heap.size = A at hD hX ⊢
  have hA : ∀ q : Nat, s.heap.size ≤ q → A q := fun q h => by rw [← hAe]; exact Or.inr h
  have hS : va_S A s.heap s.heap [] := va_S.rf
  have hG : s.heap.size + 0 ≤ s.heap.size := Nat.le_refl _
  have hl := lv_entry ([.ref h0]) (n := 3) (Nat.le_of_ble_eq_true rfl)
  rw [lg_entry_eq]
  generalize (lg_sl ([.ref h0]) ++ List.replicate (3 - (lg_sl ([.ref h0])).length) Slot.unset).toArray = ls at hl ⊢
  have hl : lv_has ls 3 [(0, .ref h0)] := hl
  refine lv_aload_n hx hb dJx35411_next_0502b_0 rfl (lv_at hl 0 rfl) ?_
  have hM3 := k330_checkForComodification l hl9 dC dI z h0 h1 h2 s.heap.size
  obtain ⟨hF1, hC4⟩ := pc_M hM3 hP hD hK hS hX hT hA [0, 1] [] rfl rfl rfl
  refine va_callv (va_runV (As := []) (rest := []) ⟨hx, hb, hml, hown, hts⟩ hM3 (cwV 0 hts (gV q_303 q_304 q_305 q_246 q_302) rfl rfl rfl hV_Jx35411_checkForComodification_da8c8 ⟨Nat.le_of_ble_eq_true rfl, Nat.le_of_ble_eq_true rfl⟩) ⟨pc_blind, va_recv hK hP (ci := 1) (q := (RJx35411, TJx35411, 4)) (q0 := 0) rfl rfl, fun U hU hW => ⟨rfl, hC4 U hU hW⟩⟩ rfl rfl hl.1 rfl (lv_room (Nat.le_of_ble_eq_true rfl)) dJx35411_next_0502b_1 ⟨(Nat.le_of_ble_eq_true rfl), (Nat.le_of_ble_eq_true rfl)⟩) hS (fun q9 _ h9 => hF1 q9 h9) hF1 (fun u5 t5 H5 L5 ht5 hvm5 hw5 hB5 hz5 hk5 hS => ?_)
  have hP := pq_keep hP hD [0, 1] rfl hk5 hB5.1 ht5
  have hG : s.heap.size + 0 ≤ H5.size := Nat.le_trans hG hz5
  refine lv_aload_n hx hb dJx35411_next_0502b_4 rfl (lv_at hl 0 rfl) ?_
  refine va_get (D := (dC, dI)) (ci := 1) (v := .int 2) (C := RJx35411) (T := TJx35411) (N := 4) hx hb hts in_Jx35411 hown hK hP 0 rfl rfl 0 (by decide) (hts _ q_259) (fun _ h9 => h9) rfl dJx35411_next_0502b_5 ?_
  refine lv_istore_n (lv' := [(1, .int 2), (0, .ref h0)]) hx hb dJx35411_next_0502b_8 rfl hl (by decide) rfl (fun ls hl => ?_)
  refine lv_iload_n hx hb dJx35411_next_0502b_9 rfl (lv_at hl 0 rfl) ?_
  refine lv_aload_n hx hb dJx35411_next_0502b_10 rfl (lv_at hl 1 rfl) ?_
  refine va_get (D := (dC, dI)) (ci := 1) (v := .ref h1) (C := RJx35411) (T := TJx35411) (N := 4) hx hb hts in_Jx35411 hown hK hP 0 rfl rfl 3 (by decide) (hts _ q_247) (fun _ h9 => h9) rfl dJx35411_next_0502b_11 ?_
  refine va_getN (D := (dC, dI)) (ci := 0) (v := .int 4) (C := RJx4a65c) (T := TJx4a65c) (N := 3) hx hb hts in_Jx4a65c hown hK hP 1 rfl rfl 2 (by decide) (va_Nw.use rfl hT.2.2.2.2.1) (fun _ h9 => h9) rfl dJx35411_next_0502b_14 ?_
  refine lv_icmp_lt (tgt := 28) hx hb dJx35411_next_0502b_17 (by decide) (fun _ => ?_) (fun cz => absurd (by decide) cz)
  refine lv_aload_n hx hb dJx35411_next_0502b_28 rfl (lv_at hl 1 rfl) ?_
  refine va_get (D := (dC, dI)) (ci := 1) (v := .ref h1) (C := RJx35411) (T := TJx35411) (N := 4) hx hb hts in_Jx35411 hown hK hP 0 rfl rfl 3 (by decide) (hts _ q_247) (fun _ h9 => h9) rfl dJx35411_next_0502b_29 ?_
  refine va_get (D := (dC, dI)) (ci := 0) (v := .ref h2) (C := RJx4a65c) (T := TJx4a65c) (N := 3) hx hb hts in_Jx4a65c hown hK hP 1 rfl rfl 1 (by decide) (hts _ q_306) (fun _ h9 => h9) rfl dJx35411_next_0502b_32 ?_
  refine lv_astore_n (lv' := [(2, .ref h2), (1, .int 2), (0, .ref h0)]) hx hb dJx35411_next_0502b_35 rfl hl (by decide) rfl (fun ls hl => ?_)
  refine lv_iload_n hx hb dJx35411_next_0502b_36 rfl (lv_at hl 1 rfl) ?_
  refine lv_aload_n hx hb dJx35411_next_0502b_37 rfl (lv_at hl 0 rfl) ?_
  refine va_alen hx hb hK hP 2 0 rfl rfl (v := 10) rfl dJx35411_next_0502b_38 ?_
  refine lv_icmp_lt (tgt := 50) hx hb dJx35411_next_0502b_39 (by decide) (fun _ => ?_) (fun cz => absurd (by decide) cz)
  refine lv_aload_n hx hb dJx35411_next_0502b_50 rfl (lv_at hl 2 rfl) ?_
  refine lv_iload_n hx hb dJx35411_next_0502b_51 rfl (lv_at hl 1 rfl) ?_
  refine lv_iconst (v := 1) hx hb dJx35411_next_0502b_52 (by decide) ?_
  refine lv_iadd hx hb dJx35411_next_0502b_53 ?_
  refine lv_topi (fun y7 ey7 => ?_)
  obtain rfl : y7 = 3 := ey7.trans (by decide)
  refine va_put (D := (dC, dI)) (ci := 1) (v := .int 3) (ty := .int) (C := RJx35411) (T := TJx35411) (N := 4) hx hb hts in_Jx35411 tyJx35411 tyJx35411_ok nmJx35411 hown hK hP hD (va_Sre hS) 0 rfl rfl 0 (by decide) (hts _ q_259) (fun _ h9 => h9) rfl (by decide +kernel) rfl rfl (Nat.le_of_ble_eq_true rfl) dJx35411_next_0502b_54 (fun H8 _ hP hD hS' => ?_)
  have hG : s.heap.size + 0 ≤ H8.size := Nat.le_trans hG hS'.1
  have hS := va_Str hS hS'
  have hP : va_P (dC, dI) xCl [(h0, ce176 h1), (h1, ce147 h2), (h2, ce146 kc0 o0 o1 o2 o3)] H8 := hP
  have hD := vd_as hP hD rfl
  refine lv_aload_n hx hb dJx35411_next_0502b_57 rfl (lv_at hl 0 rfl) ?_
  refine lv_aload_n hx hb dJx35411_next_0502b_58 rfl (lv_at hl 2 rfl) ?_
  refine lv_iload_n hx hb dJx35411_next_0502b_59 rfl (lv_at hl 1 rfl) ?_
  refine lv_dup_x1 hx hb dJx35411_next_0502b_60 rfl rfl ?_
  refine va_put (D := (dC, dI)) (ci := 1) (v := .int 2) (ty := .int) (C := RJx35411) (T := TJx35411) (N := 4) hx hb hts in_Jx35411 tyJx35411 tyJx35411_ok nmJx35411 hown hK hP hD (va_Sre hS) 0 rfl rfl 1 (by decide) (hts _ q_249) (fun _ h9 => h9) rfl (by decide +kernel) rfl rfl (Nat.le_of_ble_eq_true rfl) dJx35411_next_0502b_61 (fun H9 _ hP hD hS' => ?_)
  have hG : s.heap.size + 0 ≤ H9.size := Nat.le_trans hG hS'.1
  have hS := va_Str hS hS'
  have hP : va_P (dC, dI) xCl [(h0, ce177 h1), (h1, ce147 h2), (h2, ce146 kc0 o0 o1 o2 o3)] H9 := hP
  have hD := vd_as hP hD rfl
  refine va_aldq hx hb hK hP 2 0 rfl rfl (i := 2) (by unfold vp_in; decide) dJx35411_next_0502b_64 ?_
  refine W.eq (g2 := F0 m 65 ls [.ref o2]) rfl ?_
  exact W.aret (v := .ref o2) hx hb hr (by first | exact Or.inl ⟨_, rfl⟩ | exact Or.inr ⟨_, rfl⟩) (Or.inr ⟨_, rfl⟩) (fun t9 ht9 hW9 => ⟨⟨(), o2, rfl, trivial, ⟨rfl, ⟨pq_mk2 hP hD hK [0, 1, 2] [0] rfl rfl rfl ht9 hW9, by rw [ht9]; exact Nat.le_trans (Nat.add_le_add_left (Nat.le_of_ble_eq_true rfl) _) hG⟩⟩⟩, hS.F ht9⟩) hS.2.2 dJx35411_next_0502b_65

set_option maxHeartbeats 4000000 in
set_option maxRecDepth 100000 in
theorem k332_hasNext (l : Launch) (hl9 : l.stackTraces = false) (dC : Nat → ClassId) (dI : Nat → Nat → Nat) (z : XZ) (h0 h1 : Nat) (o0 : Nat) (sz : Nat) : Met l yJx35411_hasNext_aae02 (.code yJx35411_hasNext_aae02 cJx35411_hasNext_aae02 1 (some .boolean) :: wsL_law) ({ frames := 0, cells := 0, slots := 0, locals := 0 }) (va_Pc [.ref h0] (PC (dC, dI) [(h0, ce177 h1), (h1, ce147 o0)] [] sz z)) (va_Qi (fun (r : Int32) (_ : Unit) => r = 1) (fun (_ : Unit) (t : State) => PG (dC, dI) [(h0, ce177 h1), (h1, ce147 o0)] [] (va_A [(h0, ce177 h1), (h1, ce147 o0)] sz) sz 0 t) (va_A [(h0, ce177 h1), (h1, ce147 o0)] sz)) 0 0 (va_A [(h0, ce177 h1), (h1, ce147 o0)] sz) := by
  refine Met.ofW (cc := cJx35411_hasNext_aae02) (maxL := 1) (ret := (some .boolean)) (by decide) rfl ?_
  intro p e s m args below meth c s₁ B hml hv
  obtain ⟨rfl, hsz, hP, hK, hD0, hX, hT⟩ := hv
  have hx := B.exec
  have hb := B.bytes
  have hr := B.returns
  have hts0 := atoms_spec (ws := .code yJx35411_hasNext_aae02 cJx35411_hasNext_aae02 1 (some .boolean) :: wsL_law) B.pre
  have hts := xTail hts0
  have hown : s.vm.findClass RJx35411 = some m.cls := xown B.named rfl
  have hlocks := B.notSynchronized
  subst hsz
  have hD := hD0.self (sz := s.heap.size)
  generalize hAe : va_A [(h0, ce177 h1), (h1, ce147 o0)] s.heap.size = A at hD hX ⊢
  have hA : ∀ q : Nat, s.heap.size ≤ q → A q := fun q h => by rw [← hAe]; exact Or.inr h
  have hS : va_S A s.heap s.heap [] := va_S.rf
  have hG : s.heap.size + 0 ≤ s.heap.size := Nat.le_refl _
  have hl := lv_entry ([.ref h0]) (n := 1) (Nat.le_of_ble_eq_true rfl)
  rw [lg_entry_eq]
  generalize (lg_sl ([.ref h0]) ++ List.replicate (1 - (lg_sl ([.ref h0])).length) Slot.unset).toArray = ls at hl ⊢
  have hl : lv_has ls 1 [(0, .ref h0)] := hl
  refine lv_aload_n hx hb dJx35411_hasNext_aae02_0 rfl (lv_at hl 0 rfl) ?_
  refine va_get (D := (dC, dI)) (ci := 1) (v := .int 3) (C := RJx35411) (T := TJx35411) (N := 4) hx hb hts in_Jx35411 hown hK hP 0 rfl rfl 0 (by decide) (hts _ q_259) (fun _ h9 => h9) rfl dJx35411_hasNext_aae02_1 ?_
  refine lv_aload_n hx hb dJx35411_hasNext_aae02_4 rfl (lv_at hl 0 rfl) ?_
  refine va_get (D := (dC, dI)) (ci := 1) (v := .ref h1) (C := RJx35411) (T := TJx35411) (N := 4) hx hb hts in_Jx35411 hown hK hP 0 rfl rfl 3 (by decide) (hts _ q_247) (fun _ h9 => h9) rfl dJx35411_hasNext_aae02_5 ?_
  refine va_getN (D := (dC, dI)) (ci := 0) (v := .int 4) (C := RJx4a65c) (T := TJx4a65c) (N := 3) hx hb hts in_Jx4a65c hown hK hP 1 rfl rfl 2 (by decide) (va_Nw.use rfl hT.2.2.2.2.1) (fun _ h9 => h9) rfl dJx35411_hasNext_aae02_8 ?_
  refine lv_icmp_eq (tgt := 18) hx hb dJx35411_hasNext_aae02_11 (by decide) (fun cz => absurd cz (by decide)) (fun _ => ?_)
  refine lv_iconst (v := 1) hx hb dJx35411_hasNext_aae02_14 (by decide) ?_
  refine lv_goto (tgt := 19) hx hb dJx35411_hasNext_aae02_15 (by decide) ?_
  exact W.zret (v := 1) (ty := .boolean) hx hb hr rfl (fun t9 ht9 hW9 => ⟨⟨1, (), rfl, rfl, ⟨pq_mk2 hP hD hK [0, 1] [] rfl rfl rfl ht9 hW9, by rw [ht9]; exact Nat.le_trans (Nat.add_le_add_left (Nat.le_of_ble_eq_true rfl) _) hG⟩⟩, hS.F ht9⟩) hS.2.2 dJx35411_hasNext_aae02_19

set_option maxHeartbeats 4000000 in
set_option maxRecDepth 100000 in
theorem k333_checkForComodification (l : Launch) (hl9 : l.stackTraces = false) (dC : Nat → ClassId) (dI : Nat → Nat → Nat) (z : XZ) (h0 h1 : Nat) (o0 : Nat) (sz : Nat) : Met l yJx35411_checkForComodification_da8c8 (.code yJx35411_checkForComodification_da8c8 cJx35411_checkForComodification_da8c8 1 none :: wsL_law) ({ frames := 0, cells := 0, slots := 0, locals := 0 }) (va_Pc [.ref h0] (PC (dC, dI) [(h0, ce177 h1), (h1, ce147 o0)] [] sz z)) (va_Qv (fun (_ : Unit) => True) (fun (_ : Unit) (t : State) => PG (dC, dI) [(h0, ce177 h1), (h1, ce147 o0)] [] (va_A [(h0, ce177 h1), (h1, ce147 o0)] sz) sz 0 t) (va_A [(h0, ce177 h1), (h1, ce147 o0)] sz)) 0 0 (va_A [(h0, ce177 h1), (h1, ce147 o0)] sz) := by
  refine Met.ofW (cc := cJx35411_checkForComodification_da8c8) (maxL := 1) (ret := none) (by decide) rfl ?_
  intro p e s m args below meth c s₁ B hml hv
  obtain ⟨rfl, hsz, hP, hK, hD0, hX, hT⟩ := hv
  have hx := B.exec
  have hb := B.bytes
  have hr := B.returns
  have hts0 := atoms_spec (ws := .code yJx35411_checkForComodification_da8c8 cJx35411_checkForComodification_da8c8 1 none :: wsL_law) B.pre
  have hts := xTail hts0
  have hown : s.vm.findClass RJx35411 = some m.cls := xown B.named rfl
  have hlocks := B.notSynchronized
  subst hsz
  have hD := hD0.self (sz := s.heap.size)
  generalize hAe : va_A [(h0, ce177 h1), (h1, ce147 o0)] s.heap.size = A at hD hX ⊢
  have hA : ∀ q : Nat, s.heap.size ≤ q → A q := fun q h => by rw [← hAe]; exact Or.inr h
  have hS : va_S A s.heap s.heap [] := va_S.rf
  have hG : s.heap.size + 0 ≤ s.heap.size := Nat.le_refl _
  have hl := lv_entry ([.ref h0]) (n := 1) (Nat.le_of_ble_eq_true rfl)
  rw [lg_entry_eq]
  generalize (lg_sl ([.ref h0]) ++ List.replicate (1 - (lg_sl ([.ref h0])).length) Slot.unset).toArray = ls at hl ⊢
  have hl : lv_has ls 1 [(0, .ref h0)] := hl
  refine lv_aload_n hx hb dJx35411_checkForComodification_da8c8_0 rfl (lv_at hl 0 rfl) ?_
  refine va_get (D := (dC, dI)) (ci := 1) (v := .ref h1) (C := RJx35411) (T := TJx35411) (N := 4) hx hb hts in_Jx35411 hown hK hP 0 rfl rfl 3 (by decide) (hts _ q_247) (fun _ h9 => h9) rfl dJx35411_checkForComodification_da8c8_1 ?_
  refine va_get (D := (dC, dI)) (ci := 0) (v := .int 4) (C := RJx4a65c) (T := TJx4a65c) (N := 3) hx hb hts in_Jx4a65c hown hK hP 1 rfl rfl 0 (by decide) (hts _ q_250) (u_same (hts _ q_107)) rfl dJx35411_checkForComodification_da8c8_4 ?_
  refine lv_aload_n hx hb dJx35411_checkForComodification_da8c8_7 rfl (lv_at hl 0 rfl) ?_
  refine va_get (D := (dC, dI)) (ci := 1) (v := .int 4) (C := RJx35411) (T := TJx35411) (N := 4) hx hb hts in_Jx35411 hown hK hP 0 rfl rfl 2 (by decide) (hts _ q_251) (fun _ h9 => h9) rfl dJx35411_checkForComodification_da8c8_8 ?_
  refine lv_icmp_eq (tgt := 22) hx hb dJx35411_checkForComodification_da8c8_11 (by decide) (fun _ => ?_) (fun cz => absurd (by decide) cz)
  exact W.vret hx hb hr (fun t9 ht9 hW9 => ⟨⟨(), rfl, trivial, ⟨pq_mk2 hP hD hK [0, 1] [] rfl rfl rfl ht9 hW9, by rw [ht9]; exact Nat.le_trans (Nat.add_le_add_left (Nat.le_of_ble_eq_true rfl) _) hG⟩⟩, hS.F ht9⟩) hS.2.2 dJx35411_checkForComodification_da8c8_22

set_option maxHeartbeats 4000000 in
set_option maxRecDepth 100000 in
theorem k334_next (l : Launch) (hl9 : l.stackTraces = false) (dC : Nat → ClassId) (dI : Nat → Nat → Nat) (z : XZ) (h0 h1 h2 : Nat) (o0 o1 o2 o3 : Nat) (sz : Nat) (kc0 : ClassId) : Met l yJx35411_next_0502b (.code yJx35411_next_0502b cJx35411_next_0502b 3 (some (.object "java/lang/Object")) :: wsL_law) ({ frames := 1, cells := 0, slots := 0, locals := 20 }) (va_Pc [.ref h0] (PC (dC, dI) [(h0, ce177 h1), (h1, ce147 h2), (h2, ce146 kc0 o0 o1 o2 o3)] [(kc0, .object "java/lang/Object")] sz z)) (va_Qr (fun (_ : Unit) => True) (fun (_ : Unit) (ra : Nat) (t : State) => ra = o3 ∧ PG (dC, dI) [(h0, ce179 h1), (h1, ce147 h2), (h2, ce146 kc0 o0 o1 o2 o3)] [(kc0, .object "java/lang/Object")] (va_A [(h0, ce177 h1), (h1, ce147 h2), (h2, ce146 kc0 o0 o1 o2 o3)] sz) sz 0 t) (va_A [(h0, ce177 h1), (h1, ce147 h2), (h2, ce146 kc0 o0 o1 o2 o3)] sz)) 0 0 (va_A [(h0, ce177 h1), (h1, ce147 h2), (h2, ce146 kc0 o0 o1 o2 o3)] sz) := by
  refine Met.ofW (cc := cJx35411_next_0502b) (maxL := 3) (ret := (some (.object "java/lang/Object"))) (by decide) rfl ?_
  intro p e s m args below meth c s₁ B hml hv
  obtain ⟨rfl, hsz, hP, hK, hD0, hX, hT⟩ := hv
  have hx := B.exec
  have hb := B.bytes
  have hr := B.returns
  have hts0 := atoms_spec (ws := .code yJx35411_next_0502b cJx35411_next_0502b 3 (some (.object "java/lang/Object")) :: wsL_law) B.pre
  have hts := xTail hts0
  have hown : s.vm.findClass RJx35411 = some m.cls := xown B.named rfl
  have hlocks := B.notSynchronized
  subst hsz
  have hD := hD0.self (sz := s.heap.size)
  generalize hAe : va_A [(h0, ce177 h1), (h1, ce147 h2), (h2, ce146 kc0 o0 o1 o2 o3)] s.heap.size = A at hD hX ⊢
  have hA : ∀ q : Nat, s.heap.size ≤ q → A q := fun q h => by rw [← hAe]; exact Or.inr h
  have hS : va_S A s.heap s.heap [] := va_S.rf
  have hG : s.heap.size + 0 ≤ s.heap.size := Nat.le_refl _
  have hl := lv_entry ([.ref h0]) (n := 3) (Nat.le_of_ble_eq_true rfl)
  rw [lg_entry_eq]
  generalize (lg_sl ([.ref h0]) ++ List.replicate (3 - (lg_sl ([.ref h0])).length) Slot.unset).toArray = ls at hl ⊢
  have hl : lv_has ls 3 [(0, .ref h0)] := hl
  refine lv_aload_n hx hb dJx35411_next_0502b_0 rfl (lv_at hl 0 rfl) ?_
  have hM3 := k333_checkForComodification l hl9 dC dI z h0 h1 h2 s.heap.size
  obtain ⟨hF1, hC4⟩ := pc_M hM3 hP hD hK hS hX hT hA [0, 1] [] rfl rfl rfl
  refine va_callv (va_runV (As := []) (rest := []) ⟨hx, hb, hml, hown, hts⟩ hM3 (cwV 0 hts (gV q_303 q_304 q_305 q_246 q_302) rfl rfl rfl hV_Jx35411_checkForComodification_da8c8 ⟨Nat.le_of_ble_eq_true rfl, Nat.le_of_ble_eq_true rfl⟩) ⟨pc_blind, va_recv hK hP (ci := 1) (q := (RJx35411, TJx35411, 4)) (q0 := 0) rfl rfl, fun U hU hW => ⟨rfl, hC4 U hU hW⟩⟩ rfl rfl hl.1 rfl (lv_room (Nat.le_of_ble_eq_true rfl)) dJx35411_next_0502b_1 ⟨(Nat.le_of_ble_eq_true rfl), (Nat.le_of_ble_eq_true rfl)⟩) hS (fun q9 _ h9 => hF1 q9 h9) hF1 (fun u5 t5 H5 L5 ht5 hvm5 hw5 hB5 hz5 hk5 hS => ?_)
  have hP := pq_keep hP hD [0, 1] rfl hk5 hB5.1 ht5
  have hG : s.heap.size + 0 ≤ H5.size := Nat.le_trans hG hz5
  refine lv_aload_n hx hb dJx35411_next_0502b_4 rfl (lv_at hl 0 rfl) ?_
  refine va_get (D := (dC, dI)) (ci := 1) (v := .int 3) (C := RJx35411) (T := TJx35411) (N := 4) hx hb hts in_Jx35411 hown hK hP 0 rfl rfl 0 (by decide) (hts _ q_259) (fun _ h9 => h9) rfl dJx35411_next_0502b_5 ?_
  refine lv_istore_n (lv' := [(1, .int 3), (0, .ref h0)]) hx hb dJx35411_next_0502b_8 rfl hl (by decide) rfl (fun ls hl => ?_)
  refine lv_iload_n hx hb dJx35411_next_0502b_9 rfl (lv_at hl 0 rfl) ?_
  refine lv_aload_n hx hb dJx35411_next_0502b_10 rfl (lv_at hl 1 rfl) ?_
  refine va_get (D := (dC, dI)) (ci := 1) (v := .ref h1) (C := RJx35411) (T := TJx35411) (N := 4) hx hb hts in_Jx35411 hown hK hP 0 rfl rfl 3 (by decide) (hts _ q_247) (fun _ h9 => h9) rfl dJx35411_next_0502b_11 ?_
  refine va_getN (D := (dC, dI)) (ci := 0) (v := .int 4) (C := RJx4a65c) (T := TJx4a65c) (N := 3) hx hb hts in_Jx4a65c hown hK hP 1 rfl rfl 2 (by decide) (va_Nw.use rfl hT.2.2.2.2.1) (fun _ h9 => h9) rfl dJx35411_next_0502b_14 ?_
  refine lv_icmp_lt (tgt := 28) hx hb dJx35411_next_0502b_17 (by decide) (fun _ => ?_) (fun cz => absurd (by decide) cz)
  refine lv_aload_n hx hb dJx35411_next_0502b_28 rfl (lv_at hl 1 rfl) ?_
  refine va_get (D := (dC, dI)) (ci := 1) (v := .ref h1) (C := RJx35411) (T := TJx35411) (N := 4) hx hb hts in_Jx35411 hown hK hP 0 rfl rfl 3 (by decide) (hts _ q_247) (fun _ h9 => h9) rfl dJx35411_next_0502b_29 ?_
  refine va_get (D := (dC, dI)) (ci := 0) (v := .ref h2) (C := RJx4a65c) (T := TJx4a65c) (N := 3) hx hb hts in_Jx4a65c hown hK hP 1 rfl rfl 1 (by decide) (hts _ q_306) (fun _ h9 => h9) rfl dJx35411_next_0502b_32 ?_
  refine lv_astore_n (lv' := [(2, .ref h2), (1, .int 3), (0, .ref h0)]) hx hb dJx35411_next_0502b_35 rfl hl (by decide) rfl (fun ls hl => ?_)
  refine lv_iload_n hx hb dJx35411_next_0502b_36 rfl (lv_at hl 1 rfl) ?_
  refine lv_aload_n hx hb dJx35411_next_0502b_37 rfl (lv_at hl 0 rfl) ?_
  refine va_alen hx hb hK hP 2 0 rfl rfl (v := 10) rfl dJx35411_next_0502b_38 ?_
  refine lv_icmp_lt (tgt := 50) hx hb dJx35411_next_0502b_39 (by decide) (fun _ => ?_) (fun cz => absurd (by decide) cz)
  refine lv_aload_n hx hb dJx35411_next_0502b_50 rfl (lv_at hl 2 rfl) ?_
  refine lv_iload_n hx hb dJx35411_next_0502b_51 rfl (lv_at hl 1 rfl) ?_
  refine lv_iconst (v := 1) hx hb dJx35411_next_0502b_52 (by decide) ?_
  refine lv_iadd hx hb dJx35411_next_0502b_53 ?_
  refine lv_topi (fun y7 ey7 => ?_)
  obtain rfl : y7 = 4 := ey7.trans (by decide)
  refine va_put (D := (dC, dI)) (ci := 1) (v := .int 4) (ty := .int) (C := RJx35411) (T := TJx35411) (N := 4) hx hb hts in_Jx35411 tyJx35411 tyJx35411_ok nmJx35411 hown hK hP hD (va_Sre hS) 0 rfl rfl 0 (by decide) (hts _ q_259) (fun _ h9 => h9) rfl (by decide +kernel) rfl rfl (Nat.le_of_ble_eq_true rfl) dJx35411_next_0502b_54 (fun H8 _ hP hD hS' => ?_)
  have hG : s.heap.size + 0 ≤ H8.size := Nat.le_trans hG hS'.1
  have hS := va_Str hS hS'
  have hP : va_P (dC, dI) xCl [(h0, ce178 h1), (h1, ce147 h2), (h2, ce146 kc0 o0 o1 o2 o3)] H8 := hP
  have hD := vd_as hP hD rfl
  refine lv_aload_n hx hb dJx35411_next_0502b_57 rfl (lv_at hl 0 rfl) ?_
  refine lv_aload_n hx hb dJx35411_next_0502b_58 rfl (lv_at hl 2 rfl) ?_
  refine lv_iload_n hx hb dJx35411_next_0502b_59 rfl (lv_at hl 1 rfl) ?_
  refine lv_dup_x1 hx hb dJx35411_next_0502b_60 rfl rfl ?_
  refine va_put (D := (dC, dI)) (ci := 1) (v := .int 3) (ty := .int) (C := RJx35411) (T := TJx35411) (N := 4) hx hb hts in_Jx35411 tyJx35411 tyJx35411_ok nmJx35411 hown hK hP hD (va_Sre hS) 0 rfl rfl 1 (by decide) (hts _ q_249) (fun _ h9 => h9) rfl (by decide +kernel) rfl rfl (Nat.le_of_ble_eq_true rfl) dJx35411_next_0502b_61 (fun H9 _ hP hD hS' => ?_)
  have hG : s.heap.size + 0 ≤ H9.size := Nat.le_trans hG hS'.1
  have hS := va_Str hS hS'
  have hP : va_P (dC, dI) xCl [(h0, ce179 h1), (h1, ce147 h2), (h2, ce146 kc0 o0 o1 o2 o3)] H9 := hP
  have hD := vd_as hP hD rfl
  refine va_aldq hx hb hK hP 2 0 rfl rfl (i := 3) (by unfold vp_in; decide) dJx35411_next_0502b_64 ?_
  refine W.eq (g2 := F0 m 65 ls [.ref o3]) rfl ?_
  exact W.aret (v := .ref o3) hx hb hr (by first | exact Or.inl ⟨_, rfl⟩ | exact Or.inr ⟨_, rfl⟩) (Or.inr ⟨_, rfl⟩) (fun t9 ht9 hW9 => ⟨⟨(), o3, rfl, trivial, ⟨rfl, ⟨pq_mk2 hP hD hK [0, 1, 2] [0] rfl rfl rfl ht9 hW9, by rw [ht9]; exact Nat.le_trans (Nat.add_le_add_left (Nat.le_of_ble_eq_true rfl) _) hG⟩⟩⟩, hS.F ht9⟩) hS.2.2 dJx35411_next_0502b_65

set_option maxHeartbeats 4000000 in
set_option maxRecDepth 100000 in
theorem k335_hasNext (l : Launch) (hl9 : l.stackTraces = false) (dC : Nat → ClassId) (dI : Nat → Nat → Nat) (z : XZ) (h0 h1 : Nat) (o0 : Nat) (sz : Nat) : Met l yJx35411_hasNext_aae02 (.code yJx35411_hasNext_aae02 cJx35411_hasNext_aae02 1 (some .boolean) :: wsL_law) ({ frames := 0, cells := 0, slots := 0, locals := 0 }) (va_Pc [.ref h0] (PC (dC, dI) [(h0, ce179 h1), (h1, ce147 o0)] [] sz z)) (va_Qi (fun (r : Int32) (_ : Unit) => r = 0) (fun (_ : Unit) (t : State) => PG (dC, dI) [(h0, ce179 h1), (h1, ce147 o0)] [] (va_A [(h0, ce179 h1), (h1, ce147 o0)] sz) sz 0 t) (va_A [(h0, ce179 h1), (h1, ce147 o0)] sz)) 0 0 (va_A [(h0, ce179 h1), (h1, ce147 o0)] sz) := by
  refine Met.ofW (cc := cJx35411_hasNext_aae02) (maxL := 1) (ret := (some .boolean)) (by decide) rfl ?_
  intro p e s m args below meth c s₁ B hml hv
  obtain ⟨rfl, hsz, hP, hK, hD0, hX, hT⟩ := hv
  have hx := B.exec
  have hb := B.bytes
  have hr := B.returns
  have hts0 := atoms_spec (ws := .code yJx35411_hasNext_aae02 cJx35411_hasNext_aae02 1 (some .boolean) :: wsL_law) B.pre
  have hts := xTail hts0
  have hown : s.vm.findClass RJx35411 = some m.cls := xown B.named rfl
  have hlocks := B.notSynchronized
  subst hsz
  have hD := hD0.self (sz := s.heap.size)
  generalize hAe : va_A [(h0, ce179 h1), (h1, ce147 o0)] s.heap.size = A at hD hX ⊢
  have hA : ∀ q : Nat, s.heap.size ≤ q → A q := fun q h => by rw [← hAe]; exact Or.inr h
  have hS : va_S A s.heap s.heap [] := va_S.rf
  have hG : s.heap.size + 0 ≤ s.heap.size := Nat.le_refl _
  have hl := lv_entry ([.ref h0]) (n := 1) (Nat.le_of_ble_eq_true rfl)
  rw [lg_entry_eq]
  generalize (lg_sl ([.ref h0]) ++ List.replicate (1 - (lg_sl ([.ref h0])).length) Slot.unset).toArray = ls at hl ⊢
  have hl : lv_has ls 1 [(0, .ref h0)] := hl
  refine lv_aload_n hx hb dJx35411_hasNext_aae02_0 rfl (lv_at hl 0 rfl) ?_
  refine va_get (D := (dC, dI)) (ci := 1) (v := .int 4) (C := RJx35411) (T := TJx35411) (N := 4) hx hb hts in_Jx35411 hown hK hP 0 rfl rfl 0 (by decide) (hts _ q_259) (fun _ h9 => h9) rfl dJx35411_hasNext_aae02_1 ?_
  refine lv_aload_n hx hb dJx35411_hasNext_aae02_4 rfl (lv_at hl 0 rfl) ?_
  refine va_get (D := (dC, dI)) (ci := 1) (v := .ref h1) (C := RJx35411) (T := TJx35411) (N := 4) hx hb hts in_Jx35411 hown hK hP 0 rfl rfl 3 (by decide) (hts _ q_247) (fun _ h9 => h9) rfl dJx35411_hasNext_aae02_5 ?_
  refine va_getN (D := (dC, dI)) (ci := 0) (v := .int 4) (C := RJx4a65c) (T := TJx4a65c) (N := 3) hx hb hts in_Jx4a65c hown hK hP 1 rfl rfl 2 (by decide) (va_Nw.use rfl hT.2.2.2.2.1) (fun _ h9 => h9) rfl dJx35411_hasNext_aae02_8 ?_
  refine lv_icmp_eq (tgt := 18) hx hb dJx35411_hasNext_aae02_11 (by decide) (fun _ => ?_) (fun cz => absurd (by decide) cz)
  refine lv_iconst (v := 0) hx hb dJx35411_hasNext_aae02_18 (by decide) ?_
  exact W.zret (v := 0) (ty := .boolean) hx hb hr rfl (fun t9 ht9 hW9 => ⟨⟨0, (), rfl, rfl, ⟨pq_mk2 hP hD hK [0, 1] [] rfl rfl rfl ht9 hW9, by rw [ht9]; exact Nat.le_trans (Nat.add_le_add_left (Nat.le_of_ble_eq_true rfl) _) hG⟩⟩, hS.F ht9⟩) hS.2.2 dJx35411_hasNext_aae02_19

set_option maxHeartbeats 4000000 in
set_option maxRecDepth 100000 in
theorem k336_valuesNow (l : Launch) (hl9 : l.stackTraces = false) (dC : Nat → ClassId) (dI : Nat → Nat → Nat) (z : XZ) (h0 h1 h2 h3 h4 h5 h6 : Nat) (o0 o1 o2 : Nat) (sz : Nat) (kc0 : ClassId) : Met l yX9_valuesNow (.code yX9_valuesNow cX9_valuesNow 3 (some (.array .char)) :: wsL_law) ({ frames := 3, cells := 1, slots := 40, locals := 64 }) (va_Pc [.ref h0] (PC (dC, dI) [(h0, ce21 h1 o0 o1 o2), (h1, ce147 h2), (h2, ce146 kc0 h3 h4 h5 h6), (h3, ce49), (h4, ce49), (h5, ce49), (h6, ce49)] [(kc0, .object "java/lang/Object")] sz z)) (va_Qr (fun (_ : Unit) => True) (fun (_ : Unit) (ra : Nat) (t : State) => ∃ (n0 : Nat), ∃ (m0 : ClassId), ra = n0 ∧ PG (dC, dI) [(h0, ce21 h1 o0 o1 o2), (h1, ce147 h2), (h2, ce146 kc0 h3 h4 h5 h6), (h3, ce49), (h4, ce49), (h5, ce49), (h6, ce49), (n0, ce180 m0)] [(kc0, .object "java/lang/Object"), (m0, .char)] (va_A [(h0, ce21 h1 o0 o1 o2), (h1, ce147 h2), (h2, ce146 kc0 h3 h4 h5 h6), (h3, ce49), (h4, ce49), (h5, ce49), (h6, ce49)] sz) sz 1 t) (va_A [(h0, ce21 h1 o0 o1 o2), (h1, ce147 h2), (h2, ce146 kc0 h3 h4 h5 h6), (h3, ce49), (h4, ce49), (h5, ce49), (h6, ce49)] sz)) 1 40 (va_A [(h0, ce21 h1 o0 o1 o2), (h1, ce147 h2), (h2, ce146 kc0 h3 h4 h5 h6), (h3, ce49), (h4, ce49), (h5, ce49), (h6, ce49)] sz) := by
  refine Met.ofW (cc := cX9_valuesNow) (maxL := 3) (ret := (some (.array .char))) (by decide) rfl ?_
  intro p e s m args below meth c s₁ B hml hv
  obtain ⟨rfl, hsz, hP, hK, hD0, hX, hT⟩ := hv
  have hx := B.exec
  have hb := B.bytes
  have hr := B.returns
  have hts0 := atoms_spec (ws := .code yX9_valuesNow cX9_valuesNow 3 (some (.array .char)) :: wsL_law) B.pre
  have hts := xTail hts0
  have hown : s.vm.findClass RX9 = some m.cls := xown B.named rfl
  have hlocks := B.notSynchronized
  subst hsz
  have hD := hD0.self (sz := s.heap.size)
  generalize hAe : va_A [(h0, ce21 h1 o0 o1 o2), (h1, ce147 h2), (h2, ce146 kc0 h3 h4 h5 h6), (h3, ce49), (h4, ce49), (h5, ce49), (h6, ce49)] s.heap.size = A at hD hX ⊢
  have hA : ∀ q : Nat, s.heap.size ≤ q → A q := fun q h => by rw [← hAe]; exact Or.inr h
  have hS : va_S A s.heap s.heap [] := va_S.rf
  have hG : s.heap.size + 0 ≤ s.heap.size := Nat.le_refl _
  have hl := lv_entry ([.ref h0]) (n := 3) (Nat.le_of_ble_eq_true rfl)
  rw [lg_entry_eq]
  generalize (lg_sl ([.ref h0]) ++ List.replicate (3 - (lg_sl ([.ref h0])).length) Slot.unset).toArray = ls at hl ⊢
  have hl : lv_has ls 3 [(0, .ref h0)] := hl
  refine lv_bipush (v := 40) hx hb dX9_valuesNow_0 (by decide) ?_
  refine xa_newa (atype := .char) hx hb (hts _ q_314) rfl hK hP hD hS hA (n := 40) (N' := 40) (a0 := (40, .inl (fun _ => 0))) (fun _ => rfl) (by decide) (by decide) (Nat.le_of_ble_eq_true rfl) (Nat.le_of_ble_eq_true rfl) (Nat.le_of_ble_eq_true rfl) dX9_valuesNow_2 (fun a1 k2 H3 hg8 hK hP hD hS => ?_)
  have hG : s.heap.size + 1 ≤ H3.size := by rw [hg8]; exact Nat.succ_le_succ hG
  have hK : va_K (dC, dI) xCl [(kc0, .object "java/lang/Object"), (k2, .char)] s := hK
  have hP : va_P (dC, dI) xCl [(h0, ce21 h1 o0 o1 o2), (h1, ce147 h2), (h2, ce146 kc0 h3 h4 h5 h6), (h3, ce49), (h4, ce49), (h5, ce49), (h6, ce49), (a1, ce51 k2)] H3 := hP
  have hD := vd_as hP hD rfl
  refine W.widen (k := 1) (n := 40) (by decide) (by decide) ?_
  refine lv_astore_n (lv' := [(1, .ref a1), (0, .ref h0)]) hx hb dX9_valuesNow_4 rfl hl (by decide) rfl (fun ls hl => ?_)
  refine lv_iconst (v := 0) hx hb dX9_valuesNow_5 (by decide) ?_
  refine lv_istore_n (lv' := [(2, .int 0), (1, .ref a1), (0, .ref h0)]) hx hb dX9_valuesNow_6 rfl hl (by decide) rfl (fun ls hl => ?_)
  refine lv_iload_n hx hb dX9_valuesNow_7 rfl (lv_at hl 0 rfl) ?_
  refine lv_aload_n hx hb dX9_valuesNow_8 rfl (lv_at hl 2 rfl) ?_
  refine va_get (D := (dC, dI)) (ci := 8) (v := .ref h1) (C := RX9) (T := TX9) (N := 6) hx hb hts in_X9 hown hK hP 0 rfl rfl 1 (by decide) (hts _ q_64) (fun _ h9 => h9) rfl dX9_valuesNow_9 ?_
  have hM6 := k20_size l hl9 dC dI z h1 h2 H3.size 4 4
  obtain ⟨hF4, hC7⟩ := pc_M hM6 hP hD hK hS hX hT hA [1] [] rfl rfl rfl
  refine va_calli (va_runV (As := []) (rest := [.int 0]) ⟨hx, hb, hml, hown, hts⟩ hM6 (cwV 0 hts (gV q_272 q_77 q_78 q_12 q_75) rfl rfl rfl hV_Jx4a65c_size_8abf5 ⟨Nat.le_of_ble_eq_true rfl, Nat.le_of_ble_eq_true rfl⟩) ⟨pc_blind, va_recv hK hP (ci := 0) (q := (RJx4a65c, TJx4a65c, 3)) (q0 := 1) rfl rfl, fun U hU hW => ⟨rfl, hC7 U hU hW⟩⟩ rfl rfl hl.1 rfl (lv_room (Nat.le_of_ble_eq_true rfl)) dX9_valuesNow_12 ⟨(Nat.le_of_ble_eq_true rfl), (Nat.le_of_ble_eq_true rfl)⟩) hS (fun q9 _ h9 => hF4 q9 h9) hF4 (fun r9 u8 t8 H8 L8 ht8 hvm8 hw8 hB8 hz8 hk8 hS => ?_)
  have hP := pq_keep hP hD [1] rfl hk8 hB8.1 ht8
  have hG : s.heap.size + 1 ≤ H8.size := Nat.le_trans hG hz8
  refine W.eq (g2 := F0 m 15 ls [.int 4, .int 0]) (by rw [hw8]) ?_
  refine lv_icmp_ge (tgt := 41) hx hb dX9_valuesNow_15 (by decide) (fun cz => absurd cz (by decide)) (fun _ => ?_)
  refine lv_aload_n hx hb dX9_valuesNow_18 rfl (lv_at hl 1 rfl) ?_
  refine lv_iload_n hx hb dX9_valuesNow_19 rfl (lv_at hl 0 rfl) ?_
  refine lv_aload_n hx hb dX9_valuesNow_20 rfl (lv_at hl 2 rfl) ?_
  refine va_get (D := (dC, dI)) (ci := 8) (v := .ref h1) (C := RX9) (T := TX9) (N := 6) hx hb hts in_X9 hown hK hP 0 rfl rfl 1 (by decide) (hts _ q_64) (fun _ h9 => h9) rfl dX9_valuesNow_21 ?_
  refine lv_iload_n hx hb dX9_valuesNow_24 rfl (lv_at hl 0 rfl) ?_
  have hM12 := k260_get l hl9 dC dI z h1 h2 h3 h4 h5 h6 H8.size kc0
  obtain ⟨hF10, hC13⟩ := pc_M hM12 hP hD hK hS hX hT hA [1, 2] [0] rfl rfl rfl
  refine va_callr (va_runV (As := [.int 0]) (rest := [.int 0, .ref a1]) ⟨hx, hb, hml, hown, hts⟩ hM12 (cwV 1 hts (gV q_315 q_157 q_158 q_12 q_155) rfl rfl rfl hV_Jx4a65c_get_915e3 ⟨Nat.le_of_ble_eq_true rfl, Nat.le_of_ble_eq_true rfl⟩) ⟨pc_blind, va_recv hK hP (ci := 0) (q := (RJx4a65c, TJx4a65c, 3)) (q0 := 1) rfl rfl, fun U hU hW => ⟨rfl, hC13 U hU hW⟩⟩ rfl rfl hl.1 rfl (lv_room (Nat.le_of_ble_eq_true rfl)) dX9_valuesNow_25 ⟨(Nat.le_of_ble_eq_true rfl), (Nat.le_of_ble_eq_true rfl)⟩) hS (fun q9 _ h9 => hF10 q9 h9) hF10 (fun u14 r15 t14 H14 L14 ht14 hvm14 hw14 hB14 hz14 hk14 hS => ?_)
  obtain ⟨hr14, hB14⟩ := hB14
  have hP := pq_keep hP hD [1, 2] rfl hk14 hB14.1 ht14
  have hG : s.heap.size + 1 ≤ H14.size := Nat.le_trans hG hz14
  refine W.eq (g2 := F0 m 28 ls [.ref h3, .int 0, .ref a1]) (by rw [hr14]) ?_
  refine va_castE (nm := RX8) hx hb hown (hts _ q_273) (va_recv hK hP (ci := 7) (q := (RX8, TX8, 6)) (q0 := 3) rfl rfl) dX9_valuesNow_28 ?_
  refine va_get (D := (dC, dI)) (ci := 7) (v := .int 120) (C := RX8) (T := TX8) (N := 6) hx hb hts in_X8 hown hK hP 3 rfl rfl 1 (by decide) (hts _ q_311) (fun _ h9 => h9) rfl dX9_valuesNow_31 ?_
  refine va_cast hx hb hK hP hD (va_Sre hS) 7 1 rfl rfl (i := 0) (by unfold vp_in; decide) dX9_valuesNow_34 (fun H16 _ hP hD hS' => ?_)
  have hG : s.heap.size + 1 ≤ H16.size := Nat.le_trans hG hS'.1
  have hS := va_Str hS hS'
  have hP : va_P (dC, dI) xCl [(h0, ce21 h1 o0 o1 o2), (h1, ce147 h2), (h2, ce146 kc0 h3 h4 h5 h6), (h3, ce49), (h4, ce49), (h5, ce49), (h6, ce49), (a1, ce56 k2)] H16 := hP
  have hD := vd_as hP hD rfl
  refine lv_iinc (v := 1) (lv' := [(2, .int 1), (1, .ref a1), (0, .ref h0)]) hx hb dX9_valuesNow_35 hl (k := 0) rfl (by decide) (by decide) rfl (fun ls hl => ?_)
  refine lv_goto (tgt := 7) hx hb dX9_valuesNow_38 (by decide) ?_
  refine lv_iload_n hx hb dX9_valuesNow_7 rfl (lv_at hl 0 rfl) ?_
  refine lv_aload_n hx hb dX9_valuesNow_8 rfl (lv_at hl 2 rfl) ?_
  refine va_get (D := (dC, dI)) (ci := 8) (v := .ref h1) (C := RX9) (T := TX9) (N := 6) hx hb hts in_X9 hown hK hP 0 rfl rfl 1 (by decide) (hts _ q_64) (fun _ h9 => h9) rfl dX9_valuesNow_9 ?_
  have hM19 := k20_size l hl9 dC dI z h1 h2 H16.size 4 4
  obtain ⟨hF17, hC20⟩ := pc_M hM19 hP hD hK hS hX hT hA [1] [] rfl rfl rfl
  refine va_calli (va_runV (As := []) (rest := [.int 1]) ⟨hx, hb, hml, hown, hts⟩ hM19 (cwV 0 hts (gV q_272 q_77 q_78 q_12 q_75) rfl rfl rfl hV_Jx4a65c_size_8abf5 ⟨Nat.le_of_ble_eq_true rfl, Nat.le_of_ble_eq_true rfl⟩) ⟨pc_blind, va_recv hK hP (ci := 0) (q := (RJx4a65c, TJx4a65c, 3)) (q0 := 1) rfl rfl, fun U hU hW => ⟨rfl, hC20 U hU hW⟩⟩ rfl rfl hl.1 rfl (lv_room (Nat.le_of_ble_eq_true rfl)) dX9_valuesNow_12 ⟨(Nat.le_of_ble_eq_true rfl), (Nat.le_of_ble_eq_true rfl)⟩) hS (fun q9 _ h9 => hF17 q9 h9) hF17 (fun r22 u21 t21 H21 L21 ht21 hvm21 hw21 hB21 hz21 hk21 hS => ?_)
  have hP := pq_keep hP hD [1] rfl hk21 hB21.1 ht21
  have hG : s.heap.size + 1 ≤ H21.size := Nat.le_trans hG hz21
  refine W.eq (g2 := F0 m 15 ls [.int 4, .int 1]) (by rw [hw21]) ?_
  refine lv_icmp_ge (tgt := 41) hx hb dX9_valuesNow_15 (by decide) (fun cz => absurd cz (by decide)) (fun _ => ?_)
  refine lv_aload_n hx hb dX9_valuesNow_18 rfl (lv_at hl 1 rfl) ?_
  refine lv_iload_n hx hb dX9_valuesNow_19 rfl (lv_at hl 0 rfl) ?_
  refine lv_aload_n hx hb dX9_valuesNow_20 rfl (lv_at hl 2 rfl) ?_
  refine va_get (D := (dC, dI)) (ci := 8) (v := .ref h1) (C := RX9) (T := TX9) (N := 6) hx hb hts in_X9 hown hK hP 0 rfl rfl 1 (by decide) (hts _ q_64) (fun _ h9 => h9) rfl dX9_valuesNow_21 ?_
  refine lv_iload_n hx hb dX9_valuesNow_24 rfl (lv_at hl 0 rfl) ?_
  have hM25 := k264_get l hl9 dC dI z h1 h2 h3 h4 h5 h6 H21.size kc0
  obtain ⟨hF23, hC26⟩ := pc_M hM25 hP hD hK hS hX hT hA [1, 2] [0] rfl rfl rfl
  refine va_callr (va_runV (As := [.int 1]) (rest := [.int 1, .ref a1]) ⟨hx, hb, hml, hown, hts⟩ hM25 (cwV 1 hts (gV q_315 q_157 q_158 q_12 q_155) rfl rfl rfl hV_Jx4a65c_get_915e3 ⟨Nat.le_of_ble_eq_true rfl, Nat.le_of_ble_eq_true rfl⟩) ⟨pc_blind, va_recv hK hP (ci := 0) (q := (RJx4a65c, TJx4a65c, 3)) (q0 := 1) rfl rfl, fun U hU hW => ⟨rfl, hC26 U hU hW⟩⟩ rfl rfl hl.1 rfl (lv_room (Nat.le_of_ble_eq_true rfl)) dX9_valuesNow_25 ⟨(Nat.le_of_ble_eq_true rfl), (Nat.le_of_ble_eq_true rfl)⟩) hS (fun q9 _ h9 => hF23 q9 h9) hF23 (fun u27 r28 t27 H27 L27 ht27 hvm27 hw27 hB27 hz27 hk27 hS => ?_)
  obtain ⟨hr27, hB27⟩ := hB27
  have hP := pq_keep hP hD [1, 2] rfl hk27 hB27.1 ht27
  have hG : s.heap.size + 1 ≤ H27.size := Nat.le_trans hG hz27
  refine W.eq (g2 := F0 m 28 ls [.ref h4, .int 1, .ref a1]) (by rw [hr27]) ?_
  refine va_castE (nm := RX8) hx hb hown (hts _ q_273) (va_recv hK hP (ci := 7) (q := (RX8, TX8, 6)) (q0 := 4) rfl rfl) dX9_valuesNow_28 ?_
  refine va_get (D := (dC, dI)) (ci := 7) (v := .int 120) (C := RX8) (T := TX8) (N := 6) hx hb hts in_X8 hown hK hP 4 rfl rfl 1 (by decide) (hts _ q_311) (fun _ h9 => h9) rfl dX9_valuesNow_31 ?_
  refine va_cast hx hb hK hP hD (va_Sre hS) 7 1 rfl rfl (i := 1) (by unfold vp_in; decide) dX9_valuesNow_34 (fun H29 _ hP hD hS' => ?_)
  have hG : s.heap.size + 1 ≤ H29.size := Nat.le_trans hG hS'.1
  have hS := va_Str hS hS'
  have hP : va_P (dC, dI) xCl [(h0, ce21 h1 o0 o1 o2), (h1, ce147 h2), (h2, ce146 kc0 h3 h4 h5 h6), (h3, ce49), (h4, ce49), (h5, ce49), (h6, ce49), (a1, ce85 k2)] H29 := hP
  have hD := vd_as hP hD rfl
  refine lv_iinc (v := 2) (lv' := [(2, .int 2), (1, .ref a1), (0, .ref h0)]) hx hb dX9_valuesNow_35 hl (k := 0) rfl (by decide) (by decide) rfl (fun ls hl => ?_)
  refine lv_goto (tgt := 7) hx hb dX9_valuesNow_38 (by decide) ?_
  refine lv_iload_n hx hb dX9_valuesNow_7 rfl (lv_at hl 0 rfl) ?_
  refine lv_aload_n hx hb dX9_valuesNow_8 rfl (lv_at hl 2 rfl) ?_
  refine va_get (D := (dC, dI)) (ci := 8) (v := .ref h1) (C := RX9) (T := TX9) (N := 6) hx hb hts in_X9 hown hK hP 0 rfl rfl 1 (by decide) (hts _ q_64) (fun _ h9 => h9) rfl dX9_valuesNow_9 ?_
  have hM32 := k20_size l hl9 dC dI z h1 h2 H29.size 4 4
  obtain ⟨hF30, hC33⟩ := pc_M hM32 hP hD hK hS hX hT hA [1] [] rfl rfl rfl
  refine va_calli (va_runV (As := []) (rest := [.int 2]) ⟨hx, hb, hml, hown, hts⟩ hM32 (cwV 0 hts (gV q_272 q_77 q_78 q_12 q_75) rfl rfl rfl hV_Jx4a65c_size_8abf5 ⟨Nat.le_of_ble_eq_true rfl, Nat.le_of_ble_eq_true rfl⟩) ⟨pc_blind, va_recv hK hP (ci := 0) (q := (RJx4a65c, TJx4a65c, 3)) (q0 := 1) rfl rfl, fun U hU hW => ⟨rfl, hC33 U hU hW⟩⟩ rfl rfl hl.1 rfl (lv_room (Nat.le_of_ble_eq_true rfl)) dX9_valuesNow_12 ⟨(Nat.le_of_ble_eq_true rfl), (Nat.le_of_ble_eq_true rfl)⟩) hS (fun q9 _ h9 => hF30 q9 h9) hF30 (fun r35 u34 t34 H34 L34 ht34 hvm34 hw34 hB34 hz34 hk34 hS => ?_)
  have hP := pq_keep hP hD [1] rfl hk34 hB34.1 ht34
  have hG : s.heap.size + 1 ≤ H34.size := Nat.le_trans hG hz34
  refine W.eq (g2 := F0 m 15 ls [.int 4, .int 2]) (by rw [hw34]) ?_
  refine lv_icmp_ge (tgt := 41) hx hb dX9_valuesNow_15 (by decide) (fun cz => absurd cz (by decide)) (fun _ => ?_)
  refine lv_aload_n hx hb dX9_valuesNow_18 rfl (lv_at hl 1 rfl) ?_
  refine lv_iload_n hx hb dX9_valuesNow_19 rfl (lv_at hl 0 rfl) ?_
  refine lv_aload_n hx hb dX9_valuesNow_20 rfl (lv_at hl 2 rfl) ?_
  refine va_get (D := (dC, dI)) (ci := 8) (v := .ref h1) (C := RX9) (T := TX9) (N := 6) hx hb hts in_X9 hown hK hP 0 rfl rfl 1 (by decide) (hts _ q_64) (fun _ h9 => h9) rfl dX9_valuesNow_21 ?_
  refine lv_iload_n hx hb dX9_valuesNow_24 rfl (lv_at hl 0 rfl) ?_
  have hM38 := k268_get l hl9 dC dI z h1 h2 h3 h4 h5 h6 H34.size kc0
  obtain ⟨hF36, hC39⟩ := pc_M hM38 hP hD hK hS hX hT hA [1, 2] [0] rfl rfl rfl
  refine va_callr (va_runV (As := [.int 2]) (rest := [.int 2, .ref a1]) ⟨hx, hb, hml, hown, hts⟩ hM38 (cwV 1 hts (gV q_315 q_157 q_158 q_12 q_155) rfl rfl rfl hV_Jx4a65c_get_915e3 ⟨Nat.le_of_ble_eq_true rfl, Nat.le_of_ble_eq_true rfl⟩) ⟨pc_blind, va_recv hK hP (ci := 0) (q := (RJx4a65c, TJx4a65c, 3)) (q0 := 1) rfl rfl, fun U hU hW => ⟨rfl, hC39 U hU hW⟩⟩ rfl rfl hl.1 rfl (lv_room (Nat.le_of_ble_eq_true rfl)) dX9_valuesNow_25 ⟨(Nat.le_of_ble_eq_true rfl), (Nat.le_of_ble_eq_true rfl)⟩) hS (fun q9 _ h9 => hF36 q9 h9) hF36 (fun u40 r41 t40 H40 L40 ht40 hvm40 hw40 hB40 hz40 hk40 hS => ?_)
  obtain ⟨hr40, hB40⟩ := hB40
  have hP := pq_keep hP hD [1, 2] rfl hk40 hB40.1 ht40
  have hG : s.heap.size + 1 ≤ H40.size := Nat.le_trans hG hz40
  refine W.eq (g2 := F0 m 28 ls [.ref h5, .int 2, .ref a1]) (by rw [hr40]) ?_
  refine va_castE (nm := RX8) hx hb hown (hts _ q_273) (va_recv hK hP (ci := 7) (q := (RX8, TX8, 6)) (q0 := 5) rfl rfl) dX9_valuesNow_28 ?_
  refine va_get (D := (dC, dI)) (ci := 7) (v := .int 120) (C := RX8) (T := TX8) (N := 6) hx hb hts in_X8 hown hK hP 5 rfl rfl 1 (by decide) (hts _ q_311) (fun _ h9 => h9) rfl dX9_valuesNow_31 ?_
  refine va_cast hx hb hK hP hD (va_Sre hS) 7 1 rfl rfl (i := 2) (by unfold vp_in; decide) dX9_valuesNow_34 (fun H42 _ hP hD hS' => ?_)
  have hG : s.heap.size + 1 ≤ H42.size := Nat.le_trans hG hS'.1
  have hS := va_Str hS hS'
  have hP : va_P (dC, dI) xCl [(h0, ce21 h1 o0 o1 o2), (h1, ce147 h2), (h2, ce146 kc0 h3 h4 h5 h6), (h3, ce49), (h4, ce49), (h5, ce49), (h6, ce49), (a1, ce128 k2)] H42 := hP
  have hD := vd_as hP hD rfl
  refine lv_iinc (v := 3) (lv' := [(2, .int 3), (1, .ref a1), (0, .ref h0)]) hx hb dX9_valuesNow_35 hl (k := 0) rfl (by decide) (by decide) rfl (fun ls hl => ?_)
  refine lv_goto (tgt := 7) hx hb dX9_valuesNow_38 (by decide) ?_
  refine lv_iload_n hx hb dX9_valuesNow_7 rfl (lv_at hl 0 rfl) ?_
  refine lv_aload_n hx hb dX9_valuesNow_8 rfl (lv_at hl 2 rfl) ?_
  refine va_get (D := (dC, dI)) (ci := 8) (v := .ref h1) (C := RX9) (T := TX9) (N := 6) hx hb hts in_X9 hown hK hP 0 rfl rfl 1 (by decide) (hts _ q_64) (fun _ h9 => h9) rfl dX9_valuesNow_9 ?_
  have hM45 := k20_size l hl9 dC dI z h1 h2 H42.size 4 4
  obtain ⟨hF43, hC46⟩ := pc_M hM45 hP hD hK hS hX hT hA [1] [] rfl rfl rfl
  refine va_calli (va_runV (As := []) (rest := [.int 3]) ⟨hx, hb, hml, hown, hts⟩ hM45 (cwV 0 hts (gV q_272 q_77 q_78 q_12 q_75) rfl rfl rfl hV_Jx4a65c_size_8abf5 ⟨Nat.le_of_ble_eq_true rfl, Nat.le_of_ble_eq_true rfl⟩) ⟨pc_blind, va_recv hK hP (ci := 0) (q := (RJx4a65c, TJx4a65c, 3)) (q0 := 1) rfl rfl, fun U hU hW => ⟨rfl, hC46 U hU hW⟩⟩ rfl rfl hl.1 rfl (lv_room (Nat.le_of_ble_eq_true rfl)) dX9_valuesNow_12 ⟨(Nat.le_of_ble_eq_true rfl), (Nat.le_of_ble_eq_true rfl)⟩) hS (fun q9 _ h9 => hF43 q9 h9) hF43 (fun r48 u47 t47 H47 L47 ht47 hvm47 hw47 hB47 hz47 hk47 hS => ?_)
  have hP := pq_keep hP hD [1] rfl hk47 hB47.1 ht47
  have hG : s.heap.size + 1 ≤ H47.size := Nat.le_trans hG hz47
  refine W.eq (g2 := F0 m 15 ls [.int 4, .int 3]) (by rw [hw47]) ?_
  refine lv_icmp_ge (tgt := 41) hx hb dX9_valuesNow_15 (by decide) (fun cz => absurd cz (by decide)) (fun _ => ?_)
  refine lv_aload_n hx hb dX9_valuesNow_18 rfl (lv_at hl 1 rfl) ?_
  refine lv_iload_n hx hb dX9_valuesNow_19 rfl (lv_at hl 0 rfl) ?_
  refine lv_aload_n hx hb dX9_valuesNow_20 rfl (lv_at hl 2 rfl) ?_
  refine va_get (D := (dC, dI)) (ci := 8) (v := .ref h1) (C := RX9) (T := TX9) (N := 6) hx hb hts in_X9 hown hK hP 0 rfl rfl 1 (by decide) (hts _ q_64) (fun _ h9 => h9) rfl dX9_valuesNow_21 ?_
  refine lv_iload_n hx hb dX9_valuesNow_24 rfl (lv_at hl 0 rfl) ?_
  have hM51 := k272_get l hl9 dC dI z h1 h2 h3 h4 h5 h6 H47.size kc0
  obtain ⟨hF49, hC52⟩ := pc_M hM51 hP hD hK hS hX hT hA [1, 2] [0] rfl rfl rfl
  refine va_callr (va_runV (As := [.int 3]) (rest := [.int 3, .ref a1]) ⟨hx, hb, hml, hown, hts⟩ hM51 (cwV 1 hts (gV q_315 q_157 q_158 q_12 q_155) rfl rfl rfl hV_Jx4a65c_get_915e3 ⟨Nat.le_of_ble_eq_true rfl, Nat.le_of_ble_eq_true rfl⟩) ⟨pc_blind, va_recv hK hP (ci := 0) (q := (RJx4a65c, TJx4a65c, 3)) (q0 := 1) rfl rfl, fun U hU hW => ⟨rfl, hC52 U hU hW⟩⟩ rfl rfl hl.1 rfl (lv_room (Nat.le_of_ble_eq_true rfl)) dX9_valuesNow_25 ⟨(Nat.le_of_ble_eq_true rfl), (Nat.le_of_ble_eq_true rfl)⟩) hS (fun q9 _ h9 => hF49 q9 h9) hF49 (fun u53 r54 t53 H53 L53 ht53 hvm53 hw53 hB53 hz53 hk53 hS => ?_)
  obtain ⟨hr53, hB53⟩ := hB53
  have hP := pq_keep hP hD [1, 2] rfl hk53 hB53.1 ht53
  have hG : s.heap.size + 1 ≤ H53.size := Nat.le_trans hG hz53
  refine W.eq (g2 := F0 m 28 ls [.ref h6, .int 3, .ref a1]) (by rw [hr53]) ?_
  refine va_castE (nm := RX8) hx hb hown (hts _ q_273) (va_recv hK hP (ci := 7) (q := (RX8, TX8, 6)) (q0 := 6) rfl rfl) dX9_valuesNow_28 ?_
  refine va_get (D := (dC, dI)) (ci := 7) (v := .int 120) (C := RX8) (T := TX8) (N := 6) hx hb hts in_X8 hown hK hP 6 rfl rfl 1 (by decide) (hts _ q_311) (fun _ h9 => h9) rfl dX9_valuesNow_31 ?_
  refine va_cast hx hb hK hP hD (va_Sre hS) 7 1 rfl rfl (i := 3) (by unfold vp_in; decide) dX9_valuesNow_34 (fun H55 _ hP hD hS' => ?_)
  have hG : s.heap.size + 1 ≤ H55.size := Nat.le_trans hG hS'.1
  have hS := va_Str hS hS'
  have hP : va_P (dC, dI) xCl [(h0, ce21 h1 o0 o1 o2), (h1, ce147 h2), (h2, ce146 kc0 h3 h4 h5 h6), (h3, ce49), (h4, ce49), (h5, ce49), (h6, ce49), (a1, ce180 k2)] H55 := hP
  have hD := vd_as hP hD rfl
  refine lv_iinc (v := 4) (lv' := [(2, .int 4), (1, .ref a1), (0, .ref h0)]) hx hb dX9_valuesNow_35 hl (k := 0) rfl (by decide) (by decide) rfl (fun ls hl => ?_)
  refine lv_goto (tgt := 7) hx hb dX9_valuesNow_38 (by decide) ?_
  refine lv_iload_n hx hb dX9_valuesNow_7 rfl (lv_at hl 0 rfl) ?_
  refine lv_aload_n hx hb dX9_valuesNow_8 rfl (lv_at hl 2 rfl) ?_
  refine va_get (D := (dC, dI)) (ci := 8) (v := .ref h1) (C := RX9) (T := TX9) (N := 6) hx hb hts in_X9 hown hK hP 0 rfl rfl 1 (by decide) (hts _ q_64) (fun _ h9 => h9) rfl dX9_valuesNow_9 ?_
  have hM58 := k20_size l hl9 dC dI z h1 h2 H55.size 4 4
  obtain ⟨hF56, hC59⟩ := pc_M hM58 hP hD hK hS hX hT hA [1] [] rfl rfl rfl
  refine va_calli (va_runV (As := []) (rest := [.int 4]) ⟨hx, hb, hml, hown, hts⟩ hM58 (cwV 0 hts (gV q_272 q_77 q_78 q_12 q_75) rfl rfl rfl hV_Jx4a65c_size_8abf5 ⟨Nat.le_of_ble_eq_true rfl, Nat.le_of_ble_eq_true rfl⟩) ⟨pc_blind, va_recv hK hP (ci := 0) (q := (RJx4a65c, TJx4a65c, 3)) (q0 := 1) rfl rfl, fun U hU hW => ⟨rfl, hC59 U hU hW⟩⟩ rfl rfl hl.1 rfl (lv_room (Nat.le_of_ble_eq_true rfl)) dX9_valuesNow_12 ⟨(Nat.le_of_ble_eq_true rfl), (Nat.le_of_ble_eq_true rfl)⟩) hS (fun q9 _ h9 => hF56 q9 h9) hF56 (fun r61 u60 t60 H60 L60 ht60 hvm60 hw60 hB60 hz60 hk60 hS => ?_)
  have hP := pq_keep hP hD [1] rfl hk60 hB60.1 ht60
  have hG : s.heap.size + 1 ≤ H60.size := Nat.le_trans hG hz60
  refine W.eq (g2 := F0 m 15 ls [.int 4, .int 4]) (by rw [hw60]) ?_
  refine lv_icmp_ge (tgt := 41) hx hb dX9_valuesNow_15 (by decide) (fun _ => ?_) (fun cz => absurd (by decide) cz)
  refine lv_aload_n hx hb dX9_valuesNow_41 rfl (lv_at hl 1 rfl) ?_
  exact W.aret (v := .ref a1) hx hb hr (by first | exact Or.inl ⟨_, rfl⟩ | exact Or.inr ⟨_, rfl⟩) (Or.inr ⟨_, rfl⟩) (fun t9 ht9 hW9 => ⟨⟨(), a1, rfl, trivial, ⟨a1, k2, rfl, ⟨pq_mk2 hP hD hK [0, 1, 2, 3, 4, 5, 6, 7] [0, 1] rfl rfl rfl ht9 hW9, by rw [ht9]; exact Nat.le_trans (Nat.add_le_add_left (Nat.le_of_ble_eq_true rfl) _) hG⟩⟩⟩, hS.F ht9⟩) hS.2.2 dX9_valuesNow_42

set_option maxHeartbeats 4000000 in
set_option maxRecDepth 100000 in
theorem k337_init (l : Launch) (hl9 : l.stackTraces = false) (dC : Nat → ClassId) (dI : Nat → Nat → Nat) (z : XZ) (h0 h1 : Nat) (o0 : Nat) (sz : Nat) : Met l yJx35411_init_45d68 (.code yJx35411_init_45d68 cJx35411_init_45d68 2 none :: wsL_law) ({ frames := 1, cells := 0, slots := 0, locals := 16 }) (va_Pc [.ref h0, .ref h1] (PC (dC, dI) [(h0, ce42), (h1, ce167 o0)] [] sz z)) (va_Qv (fun (_ : Unit) => True) (fun (_ : Unit) (t : State) => PG (dC, dI) [(h0, ce181 h1), (h1, ce167 o0)] [] (va_A [(h0, ce42), (h1, ce167 o0)] sz) sz 0 t) (va_A [(h0, ce42), (h1, ce167 o0)] sz)) 0 0 (va_A [(h0, ce42), (h1, ce167 o0)] sz) := by
  refine Met.ofW (cc := cJx35411_init_45d68) (maxL := 2) (ret := none) (by decide) rfl ?_
  intro p e s m args below meth c s₁ B hml hv
  obtain ⟨rfl, hsz, hP, hK, hD0, hX, hT⟩ := hv
  have hx := B.exec
  have hb := B.bytes
  have hr := B.returns
  have hts0 := atoms_spec (ws := .code yJx35411_init_45d68 cJx35411_init_45d68 2 none :: wsL_law) B.pre
  have hts := xTail hts0
  have hown : s.vm.findClass RJx35411 = some m.cls := xown B.named rfl
  have hlocks := B.notSynchronized
  have hin : meth.name = "<init>" := (name_of_methodNamed B.named B.method).1
  subst hsz
  have hD := hD0.self (sz := s.heap.size)
  generalize hAe : va_A [(h0, ce42), (h1, ce167 o0)] s.heap.size = A at hD hX ⊢
  have hA : ∀ q : Nat, s.heap.size ≤ q → A q := fun q h => by rw [← hAe]; exact Or.inr h
  have hS : va_S A s.heap s.heap [] := va_S.rf
  have hG : s.heap.size + 0 ≤ s.heap.size := Nat.le_refl _
  have hl := lv_entry ([.ref h0, .ref h1]) (n := 2) (Nat.le_of_ble_eq_true rfl)
  rw [lg_entry_eq]
  generalize (lg_sl ([.ref h0, .ref h1]) ++ List.replicate (2 - (lg_sl ([.ref h0, .ref h1])).length) Slot.unset).toArray = ls at hl ⊢
  have hl : lv_has ls 2 [(0, .ref h0), (1, .ref h1)] := hl
  refine lv_aload_n hx hb dJx35411_init_45d68_0 rfl (lv_at hl 0 rfl) ?_
  refine lv_aload_n hx hb dJx35411_init_45d68_1 rfl (lv_at hl 1 rfl) ?_
  refine va_putF (D := (dC, dI)) (ci := 1) (v := .ref h1) (ty := .object "java/util/ArrayList") (C := RJx35411) (T := TJx35411) (N := 4) hx hb hts in_Jx35411 tyJx35411 tyJx35411_ok nmJx35411 hown hK hP hD (va_Sre hS) 0 rfl rfl 3 (by decide) (hts _ q_247) (fun _ h9 => h9) rfl hin rfl (by decide +kernel) rfl rfl (Nat.le_of_ble_eq_true rfl) dJx35411_init_45d68_2 (fun H1 _ hP hD hS' => ?_)
  have hG : s.heap.size + 0 ≤ H1.size := Nat.le_trans hG hS'.1
  have hS := va_Str hS hS'
  have hP : va_P (dC, dI) xCl [(h0, ce43 h1), (h1, ce167 o0)] H1 := hP
  have hD := vd_as hP hD rfl
  refine lv_aload_n hx hb dJx35411_init_45d68_5 rfl (lv_at hl 0 rfl) ?_
  refine W.objInit hx hb hown (hts _ q_248) (hts _ q_4) (hts _ q_5) rfl (by rw [hml]; exact hl.1) rfl dJx35411_init_45d68_6 (Nat.le_of_ble_eq_true rfl) (Nat.le_of_ble_eq_true rfl) ?_
  refine W.eq (g2 := F0 m 9 ls []) rfl ?_
  refine lv_aload_n hx hb dJx35411_init_45d68_9 rfl (lv_at hl 0 rfl) ?_
  refine lv_iconst (v := (-1)) hx hb dJx35411_init_45d68_10 (by decide) ?_
  refine va_put (D := (dC, dI)) (ci := 1) (v := .int (-1)) (ty := .int) (C := RJx35411) (T := TJx35411) (N := 4) hx hb hts in_Jx35411 tyJx35411 tyJx35411_ok nmJx35411 hown hK hP hD (va_Sre hS) 0 rfl rfl 1 (by decide) (hts _ q_249) (fun _ h9 => h9) rfl (by decide +kernel) rfl rfl (Nat.le_of_ble_eq_true rfl) dJx35411_init_45d68_11 (fun H2 _ hP hD hS' => ?_)
  have hG : s.heap.size + 0 ≤ H2.size := Nat.le_trans hG hS'.1
  have hS := va_Str hS hS'
  have hP : va_P (dC, dI) xCl [(h0, ce44 h1), (h1, ce167 o0)] H2 := hP
  have hD := vd_as hP hD rfl
  refine lv_aload_n hx hb dJx35411_init_45d68_14 rfl (lv_at hl 0 rfl) ?_
  refine lv_aload_n hx hb dJx35411_init_45d68_15 rfl (lv_at hl 0 rfl) ?_
  refine va_get (D := (dC, dI)) (ci := 1) (v := .ref h1) (C := RJx35411) (T := TJx35411) (N := 4) hx hb hts in_Jx35411 hown hK hP 0 rfl rfl 3 (by decide) (hts _ q_247) (fun _ h9 => h9) rfl dJx35411_init_45d68_16 ?_
  refine va_get (D := (dC, dI)) (ci := 0) (v := .int 14) (C := RJx4a65c) (T := TJx4a65c) (N := 3) hx hb hts in_Jx4a65c hown hK hP 1 rfl rfl 0 (by decide) (hts _ q_250) (u_same (hts _ q_107)) rfl dJx35411_init_45d68_19 ?_
  refine va_put (D := (dC, dI)) (ci := 1) (v := .int 14) (ty := .int) (C := RJx35411) (T := TJx35411) (N := 4) hx hb hts in_Jx35411 tyJx35411 tyJx35411_ok nmJx35411 hown hK hP hD (va_Sre hS) 0 rfl rfl 2 (by decide) (hts _ q_251) (fun _ h9 => h9) rfl (by decide +kernel) rfl rfl (Nat.le_of_ble_eq_true rfl) dJx35411_init_45d68_22 (fun H3 _ hP hD hS' => ?_)
  have hG : s.heap.size + 0 ≤ H3.size := Nat.le_trans hG hS'.1
  have hS := va_Str hS hS'
  have hP : va_P (dC, dI) xCl [(h0, ce181 h1), (h1, ce167 o0)] H3 := hP
  have hD := vd_as hP hD rfl
  exact W.vret hx hb hr (fun t9 ht9 hW9 => ⟨⟨(), rfl, trivial, ⟨pq_mk2 hP hD hK [0, 1] [] rfl rfl rfl ht9 hW9, by rw [ht9]; exact Nat.le_trans (Nat.add_le_add_left (Nat.le_of_ble_eq_true rfl) _) hG⟩⟩, hS.F ht9⟩) hS.2.2 dJx35411_init_45d68_25

set_option maxHeartbeats 4000000 in
set_option maxRecDepth 100000 in
theorem k338_iterator (l : Launch) (hl9 : l.stackTraces = false) (dC : Nat → ClassId) (dI : Nat → Nat → Nat) (z : XZ) (h0 : Nat) (o0 : Nat) (sz : Nat) : Met l yJx4a65c_iterator_32c93 (.code yJx4a65c_iterator_32c93 cJx4a65c_iterator_32c93 1 (some (.object "java/util/Iterator")) :: wsL_law) ({ frames := 2, cells := 1, slots := 4, locals := 37 }) (va_Pc [.ref h0] (PC (dC, dI) [(h0, ce167 o0)] [] sz z)) (va_Qr (fun (_ : Unit) => True) (fun (_ : Unit) (ra : Nat) (t : State) => ∃ (n0 : Nat), ra = n0 ∧ PG (dC, dI) [(h0, ce167 o0), (n0, ce181 h0)] [] (va_A [(h0, ce167 o0)] sz) sz 1 t) (va_A [(h0, ce167 o0)] sz)) 1 4 (va_A [(h0, ce167 o0)] sz) := by
  refine Met.ofW (cc := cJx4a65c_iterator_32c93) (maxL := 1) (ret := (some (.object "java/util/Iterator"))) (by decide) rfl ?_
  intro p e s m args below meth c s₁ B hml hv
  obtain ⟨rfl, hsz, hP, hK, hD0, hX, hT⟩ := hv
  have hx := B.exec
  have hb := B.bytes
  have hr := B.returns
  have hts0 := atoms_spec (ws := .code yJx4a65c_iterator_32c93 cJx4a65c_iterator_32c93 1 (some (.object "java/util/Iterator")) :: wsL_law) B.pre
  have hts := xTail hts0
  have hown : s.vm.findClass RJx4a65c = some m.cls := xown B.named rfl
  have hlocks := B.notSynchronized
  subst hsz
  have hD := hD0.self (sz := s.heap.size)
  generalize hAe : va_A [(h0, ce167 o0)] s.heap.size = A at hD hX ⊢
  have hA : ∀ q : Nat, s.heap.size ≤ q → A q := fun q h => by rw [← hAe]; exact Or.inr h
  have hS : va_S A s.heap s.heap [] := va_S.rf
  have hG : s.heap.size + 0 ≤ s.heap.size := Nat.le_refl _
  have hl := lv_entry ([.ref h0]) (n := 1) (Nat.le_of_ble_eq_true rfl)
  rw [lg_entry_eq]
  generalize (lg_sl ([.ref h0]) ++ List.replicate (1 - (lg_sl ([.ref h0])).length) Slot.unset).toArray = ls at hl ⊢
  have hl : lv_has ls 1 [(0, .ref h0)] := hl
  refine xa_new (ci := 1) (fs := [.int 0, .int 0, .int 0, .null]) (C := RJx35411) (T := TJx35411) (N := 4) hx hb hts in_Jx35411 tyJx35411 tyJx35411_ok hown (hts _ q_244) (hts _ q_245) (hts _ q_246) hK hP hD hS hA rfl nf_Jx35411 (Nat.le_of_ble_eq_true rfl) (Nat.le_of_ble_eq_true rfl) dJx4a65c_iterator_32c93_0 (fun a1 H2 hg8 hP hD hS => ?_)
  have hG : s.heap.size + 1 ≤ H2.size := by rw [hg8]; exact Nat.succ_le_succ hG
  have hP : va_P (dC, dI) xCl [(h0, ce167 o0), (a1, ce42)] H2 := hP
  have hD := vd_as hP hD rfl
  refine W.widen (k := 1) (n := 4) (by decide) (by decide) ?_
  refine lv_dup hx hb dJx4a65c_iterator_32c93_3 rfl ?_
  refine lv_aload_n hx hb dJx4a65c_iterator_32c93_4 rfl (lv_at hl 0 rfl) ?_
  have hM5 := k337_init l hl9 dC dI z a1 h0 o0 H2.size
  obtain ⟨hF3, hC6⟩ := pc_M hM5 hP hD hK hS hX hT hA [1, 0] [] rfl rfl rfl
  refine va_callv (va_runI (As := [.ref h0]) (rest := [.ref a1]) ⟨hx, hb, hml, hown, hts⟩ hM5 (cwI 1 hts (gIL q_252) rfl rfl rfl (hts _ q_246) (hts _ q_253) (hts _ q_254) rfl hS_Jx35411_init_45d68 ⟨Nat.le_of_ble_eq_true rfl, Nat.le_of_ble_eq_true rfl⟩) ⟨pc_blind, fun U hU hW => ⟨rfl, hC6 U hU hW⟩⟩ rfl rfl hl.1 rfl (lv_room (Nat.le_of_ble_eq_true rfl)) dJx4a65c_iterator_32c93_5 ⟨(Nat.le_of_ble_eq_true rfl), (Nat.le_of_ble_eq_true rfl)⟩) hS (fun q9 _ h9 => hF3 q9 h9) hF3 (fun u7 t7 H7 L7 ht7 hvm7 hw7 hB7 hz7 hk7 hS => ?_)
  obtain ⟨hP, hD, hK⟩ := pq_jn (wz := [(a1, ce181 h0), (h0, ce167 o0)]) (tz := []) hP hD hK [1, 0] [] rfl hk7 hF3 hB7.1 ht7 hvm7 rfl rfl
  have hG : s.heap.size + 1 ≤ H7.size := Nat.le_trans hG hz7
  exact W.aret (v := .ref a1) hx hb hr (by first | exact Or.inl ⟨_, rfl⟩ | exact Or.inr ⟨_, rfl⟩) (Or.inr ⟨_, rfl⟩) (fun t9 ht9 hW9 => ⟨⟨(), a1, rfl, trivial, ⟨a1, rfl, ⟨pq_mk2 hP hD hK [1, 0] [] rfl rfl rfl ht9 hW9, by rw [ht9]; exact Nat.le_trans (Nat.add_le_add_left (Nat.le_of_ble_eq_true rfl) _) hG⟩⟩⟩, hS.F ht9⟩) hS.2.2 dJx4a65c_iterator_32c93_8

set_option maxHeartbeats 4000000 in
set_option maxRecDepth 100000 in
theorem k339_hasNext (l : Launch) (hl9 : l.stackTraces = false) (dC : Nat → ClassId) (dI : Nat → Nat → Nat) (z : XZ) (h0 h1 : Nat) (o0 : Nat) (sz : Nat) : Met l yJx35411_hasNext_aae02 (.code yJx35411_hasNext_aae02 cJx35411_hasNext_aae02 1 (some .boolean) :: wsL_law) ({ frames := 0, cells := 0, slots := 0, locals := 0 }) (va_Pc [.ref h0] (PC (dC, dI) [(h0, ce181 h1), (h1, ce167 o0)] [] sz z)) (va_Qi (fun (r : Int32) (_ : Unit) => r = 1) (fun (_ : Unit) (t : State) => PG (dC, dI) [(h0, ce181 h1), (h1, ce167 o0)] [] (va_A [(h0, ce181 h1), (h1, ce167 o0)] sz) sz 0 t) (va_A [(h0, ce181 h1), (h1, ce167 o0)] sz)) 0 0 (va_A [(h0, ce181 h1), (h1, ce167 o0)] sz) := by
  refine Met.ofW (cc := cJx35411_hasNext_aae02) (maxL := 1) (ret := (some .boolean)) (by decide) rfl ?_
  intro p e s m args below meth c s₁ B hml hv
  obtain ⟨rfl, hsz, hP, hK, hD0, hX, hT⟩ := hv
  have hx := B.exec
  have hb := B.bytes
  have hr := B.returns
  have hts0 := atoms_spec (ws := .code yJx35411_hasNext_aae02 cJx35411_hasNext_aae02 1 (some .boolean) :: wsL_law) B.pre
  have hts := xTail hts0
  have hown : s.vm.findClass RJx35411 = some m.cls := xown B.named rfl
  have hlocks := B.notSynchronized
  subst hsz
  have hD := hD0.self (sz := s.heap.size)
  generalize hAe : va_A [(h0, ce181 h1), (h1, ce167 o0)] s.heap.size = A at hD hX ⊢
  have hA : ∀ q : Nat, s.heap.size ≤ q → A q := fun q h => by rw [← hAe]; exact Or.inr h
  have hS : va_S A s.heap s.heap [] := va_S.rf
  have hG : s.heap.size + 0 ≤ s.heap.size := Nat.le_refl _
  have hl := lv_entry ([.ref h0]) (n := 1) (Nat.le_of_ble_eq_true rfl)
  rw [lg_entry_eq]
  generalize (lg_sl ([.ref h0]) ++ List.replicate (1 - (lg_sl ([.ref h0])).length) Slot.unset).toArray = ls at hl ⊢
  have hl : lv_has ls 1 [(0, .ref h0)] := hl
  refine lv_aload_n hx hb dJx35411_hasNext_aae02_0 rfl (lv_at hl 0 rfl) ?_
  refine va_get (D := (dC, dI)) (ci := 1) (v := .int 0) (C := RJx35411) (T := TJx35411) (N := 4) hx hb hts in_Jx35411 hown hK hP 0 rfl rfl 0 (by decide) (hts _ q_259) (fun _ h9 => h9) rfl dJx35411_hasNext_aae02_1 ?_
  refine lv_aload_n hx hb dJx35411_hasNext_aae02_4 rfl (lv_at hl 0 rfl) ?_
  refine va_get (D := (dC, dI)) (ci := 1) (v := .ref h1) (C := RJx35411) (T := TJx35411) (N := 4) hx hb hts in_Jx35411 hown hK hP 0 rfl rfl 3 (by decide) (hts _ q_247) (fun _ h9 => h9) rfl dJx35411_hasNext_aae02_5 ?_
  refine va_getN (D := (dC, dI)) (ci := 0) (v := .int 4) (C := RJx4a65c) (T := TJx4a65c) (N := 3) hx hb hts in_Jx4a65c hown hK hP 1 rfl rfl 2 (by decide) (va_Nw.use rfl hT.2.2.2.2.1) (fun _ h9 => h9) rfl dJx35411_hasNext_aae02_8 ?_
  refine lv_icmp_eq (tgt := 18) hx hb dJx35411_hasNext_aae02_11 (by decide) (fun cz => absurd cz (by decide)) (fun _ => ?_)
  refine lv_iconst (v := 1) hx hb dJx35411_hasNext_aae02_14 (by decide) ?_
  refine lv_goto (tgt := 19) hx hb dJx35411_hasNext_aae02_15 (by decide) ?_
  exact W.zret (v := 1) (ty := .boolean) hx hb hr rfl (fun t9 ht9 hW9 => ⟨⟨1, (), rfl, rfl, ⟨pq_mk2 hP hD hK [0, 1] [] rfl rfl rfl ht9 hW9, by rw [ht9]; exact Nat.le_trans (Nat.add_le_add_left (Nat.le_of_ble_eq_true rfl) _) hG⟩⟩, hS.F ht9⟩) hS.2.2 dJx35411_hasNext_aae02_19

set_option maxHeartbeats 4000000 in
set_option maxRecDepth 100000 in
theorem k340_checkForComodification (l : Launch) (hl9 : l.stackTraces = false) (dC : Nat → ClassId) (dI : Nat → Nat → Nat) (z : XZ) (h0 h1 : Nat) (o0 : Nat) (sz : Nat) : Met l yJx35411_checkForComodification_da8c8 (.code yJx35411_checkForComodification_da8c8 cJx35411_checkForComodification_da8c8 1 none :: wsL_law) ({ frames := 0, cells := 0, slots := 0, locals := 0 }) (va_Pc [.ref h0] (PC (dC, dI) [(h0, ce181 h1), (h1, ce167 o0)] [] sz z)) (va_Qv (fun (_ : Unit) => True) (fun (_ : Unit) (t : State) => PG (dC, dI) [(h0, ce181 h1), (h1, ce167 o0)] [] (va_A [(h0, ce181 h1), (h1, ce167 o0)] sz) sz 0 t) (va_A [(h0, ce181 h1), (h1, ce167 o0)] sz)) 0 0 (va_A [(h0, ce181 h1), (h1, ce167 o0)] sz) := by
  refine Met.ofW (cc := cJx35411_checkForComodification_da8c8) (maxL := 1) (ret := none) (by decide) rfl ?_
  intro p e s m args below meth c s₁ B hml hv
  obtain ⟨rfl, hsz, hP, hK, hD0, hX, hT⟩ := hv
  have hx := B.exec
  have hb := B.bytes
  have hr := B.returns
  have hts0 := atoms_spec (ws := .code yJx35411_checkForComodification_da8c8 cJx35411_checkForComodification_da8c8 1 none :: wsL_law) B.pre
  have hts := xTail hts0
  have hown : s.vm.findClass RJx35411 = some m.cls := xown B.named rfl
  have hlocks := B.notSynchronized
  subst hsz
  have hD := hD0.self (sz := s.heap.size)
  generalize hAe : va_A [(h0, ce181 h1), (h1, ce167 o0)] s.heap.size = A at hD hX ⊢
  have hA : ∀ q : Nat, s.heap.size ≤ q → A q := fun q h => by rw [← hAe]; exact Or.inr h
  have hS : va_S A s.heap s.heap [] := va_S.rf
  have hG : s.heap.size + 0 ≤ s.heap.size := Nat.le_refl _
  have hl := lv_entry ([.ref h0]) (n := 1) (Nat.le_of_ble_eq_true rfl)
  rw [lg_entry_eq]
  generalize (lg_sl ([.ref h0]) ++ List.replicate (1 - (lg_sl ([.ref h0])).length) Slot.unset).toArray = ls at hl ⊢
  have hl : lv_has ls 1 [(0, .ref h0)] := hl
  refine lv_aload_n hx hb dJx35411_checkForComodification_da8c8_0 rfl (lv_at hl 0 rfl) ?_
  refine va_get (D := (dC, dI)) (ci := 1) (v := .ref h1) (C := RJx35411) (T := TJx35411) (N := 4) hx hb hts in_Jx35411 hown hK hP 0 rfl rfl 3 (by decide) (hts _ q_247) (fun _ h9 => h9) rfl dJx35411_checkForComodification_da8c8_1 ?_
  refine va_get (D := (dC, dI)) (ci := 0) (v := .int 14) (C := RJx4a65c) (T := TJx4a65c) (N := 3) hx hb hts in_Jx4a65c hown hK hP 1 rfl rfl 0 (by decide) (hts _ q_250) (u_same (hts _ q_107)) rfl dJx35411_checkForComodification_da8c8_4 ?_
  refine lv_aload_n hx hb dJx35411_checkForComodification_da8c8_7 rfl (lv_at hl 0 rfl) ?_
  refine va_get (D := (dC, dI)) (ci := 1) (v := .int 14) (C := RJx35411) (T := TJx35411) (N := 4) hx hb hts in_Jx35411 hown hK hP 0 rfl rfl 2 (by decide) (hts _ q_251) (fun _ h9 => h9) rfl dJx35411_checkForComodification_da8c8_8 ?_
  refine lv_icmp_eq (tgt := 22) hx hb dJx35411_checkForComodification_da8c8_11 (by decide) (fun _ => ?_) (fun cz => absurd (by decide) cz)
  exact W.vret hx hb hr (fun t9 ht9 hW9 => ⟨⟨(), rfl, trivial, ⟨pq_mk2 hP hD hK [0, 1] [] rfl rfl rfl ht9 hW9, by rw [ht9]; exact Nat.le_trans (Nat.add_le_add_left (Nat.le_of_ble_eq_true rfl) _) hG⟩⟩, hS.F ht9⟩) hS.2.2 dJx35411_checkForComodification_da8c8_22

set_option maxHeartbeats 4000000 in
set_option maxRecDepth 100000 in
theorem k341_next (l : Launch) (hl9 : l.stackTraces = false) (dC : Nat → ClassId) (dI : Nat → Nat → Nat) (z : XZ) (h0 h1 h2 : Nat) (sz : Nat) (kc0 : ClassId) : Met l yJx35411_next_0502b (.code yJx35411_next_0502b cJx35411_next_0502b 3 (some (.object "java/lang/Object")) :: wsL_law) ({ frames := 1, cells := 0, slots := 0, locals := 20 }) (va_Pc [.ref h0] (PC (dC, dI) [(h0, ce181 h1), (h1, ce167 h2), (h2, ce146 kc0 (z.2.2.1 128) (z.2.2.1 129) (z.2.2.1 130) (z.2.2.1 131))] [(kc0, .object "java/lang/Object")] sz z)) (va_Qr (fun (_ : Unit) => True) (fun (_ : Unit) (ra : Nat) (t : State) => ra = (z.2.2.1 128) ∧ PG (dC, dI) [(h0, ce183 h1), (h1, ce167 h2), (h2, ce146 kc0 (z.2.2.1 128) (z.2.2.1 129) (z.2.2.1 130) (z.2.2.1 131))] [(kc0, .object "java/lang/Object")] (va_A [(h0, ce181 h1), (h1, ce167 h2), (h2, ce146 kc0 (z.2.2.1 128) (z.2.2.1 129) (z.2.2.1 130) (z.2.2.1 131))] sz) sz 0 t) (va_A [(h0, ce181 h1), (h1, ce167 h2), (h2, ce146 kc0 (z.2.2.1 128) (z.2.2.1 129) (z.2.2.1 130) (z.2.2.1 131))] sz)) 0 0 (va_A [(h0, ce181 h1), (h1, ce167 h2), (h2, ce146 kc0 (z.2.2.1 128) (z.2.2.1 129) (z.2.2.1 130) (z.2.2.1 131))] sz) := by
  refine Met.ofW (cc := cJx35411_next_0502b) (maxL := 3) (ret := (some (.object "java/lang/Object"))) (by decide) rfl ?_
  intro p e s m args below meth c s₁ B hml hv
  obtain ⟨rfl, hsz, hP, hK, hD0, hX, hT⟩ := hv
  have hx := B.exec
  have hb := B.bytes
  have hr := B.returns
  have hts0 := atoms_spec (ws := .code yJx35411_next_0502b cJx35411_next_0502b 3 (some (.object "java/lang/Object")) :: wsL_law) B.pre
  have hts := xTail hts0
  have hown : s.vm.findClass RJx35411 = some m.cls := xown B.named rfl
  have hlocks := B.notSynchronized
  subst hsz
  have hD := hD0.self (sz := s.heap.size)
  generalize hAe : va_A [(h0, ce181 h1), (h1, ce167 h2), (h2, ce146 kc0 (z.2.2.1 128) (z.2.2.1 129) (z.2.2.1 130) (z.2.2.1 131))] s.heap.size = A at hD hX ⊢
  have hA : ∀ q : Nat, s.heap.size ≤ q → A q := fun q h => by rw [← hAe]; exact Or.inr h
  have hS : va_S A s.heap s.heap [] := va_S.rf
  have hG : s.heap.size + 0 ≤ s.heap.size := Nat.le_refl _
  have hl := lv_entry ([.ref h0]) (n := 3) (Nat.le_of_ble_eq_true rfl)
  rw [lg_entry_eq]
  generalize (lg_sl ([.ref h0]) ++ List.replicate (3 - (lg_sl ([.ref h0])).length) Slot.unset).toArray = ls at hl ⊢
  have hl : lv_has ls 3 [(0, .ref h0)] := hl
  refine lv_aload_n hx hb dJx35411_next_0502b_0 rfl (lv_at hl 0 rfl) ?_
  have hM3 := k340_checkForComodification l hl9 dC dI z h0 h1 h2 s.heap.size
  obtain ⟨hF1, hC4⟩ := pc_M hM3 hP hD hK hS hX hT hA [0, 1] [] rfl rfl rfl
  refine va_callv (va_runV (As := []) (rest := []) ⟨hx, hb, hml, hown, hts⟩ hM3 (cwV 0 hts (gV q_303 q_304 q_305 q_246 q_302) rfl rfl rfl hV_Jx35411_checkForComodification_da8c8 ⟨Nat.le_of_ble_eq_true rfl, Nat.le_of_ble_eq_true rfl⟩) ⟨pc_blind, va_recv hK hP (ci := 1) (q := (RJx35411, TJx35411, 4)) (q0 := 0) rfl rfl, fun U hU hW => ⟨rfl, hC4 U hU hW⟩⟩ rfl rfl hl.1 rfl (lv_room (Nat.le_of_ble_eq_true rfl)) dJx35411_next_0502b_1 ⟨(Nat.le_of_ble_eq_true rfl), (Nat.le_of_ble_eq_true rfl)⟩) hS (fun q9 _ h9 => hF1 q9 h9) hF1 (fun u5 t5 H5 L5 ht5 hvm5 hw5 hB5 hz5 hk5 hS => ?_)
  have hP := pq_keep hP hD [0, 1] rfl hk5 hB5.1 ht5
  have hG : s.heap.size + 0 ≤ H5.size := Nat.le_trans hG hz5
  refine lv_aload_n hx hb dJx35411_next_0502b_4 rfl (lv_at hl 0 rfl) ?_
  refine va_get (D := (dC, dI)) (ci := 1) (v := .int 0) (C := RJx35411) (T := TJx35411) (N := 4) hx hb hts in_Jx35411 hown hK hP 0 rfl rfl 0 (by decide) (hts _ q_259) (fun _ h9 => h9) rfl dJx35411_next_0502b_5 ?_
  refine lv_istore_n (lv' := [(1, .int 0), (0, .ref h0)]) hx hb dJx35411_next_0502b_8 rfl hl (by decide) rfl (fun ls hl => ?_)
  refine lv_iload_n hx hb dJx35411_next_0502b_9 rfl (lv_at hl 0 rfl) ?_
  refine lv_aload_n hx hb dJx35411_next_0502b_10 rfl (lv_at hl 1 rfl) ?_
  refine va_get (D := (dC, dI)) (ci := 1) (v := .ref h1) (C := RJx35411) (T := TJx35411) (N := 4) hx hb hts in_Jx35411 hown hK hP 0 rfl rfl 3 (by decide) (hts _ q_247) (fun _ h9 => h9) rfl dJx35411_next_0502b_11 ?_
  refine va_getN (D := (dC, dI)) (ci := 0) (v := .int 4) (C := RJx4a65c) (T := TJx4a65c) (N := 3) hx hb hts in_Jx4a65c hown hK hP 1 rfl rfl 2 (by decide) (va_Nw.use rfl hT.2.2.2.2.1) (fun _ h9 => h9) rfl dJx35411_next_0502b_14 ?_
  refine lv_icmp_lt (tgt := 28) hx hb dJx35411_next_0502b_17 (by decide) (fun _ => ?_) (fun cz => absurd (by decide) cz)
  refine lv_aload_n hx hb dJx35411_next_0502b_28 rfl (lv_at hl 1 rfl) ?_
  refine va_get (D := (dC, dI)) (ci := 1) (v := .ref h1) (C := RJx35411) (T := TJx35411) (N := 4) hx hb hts in_Jx35411 hown hK hP 0 rfl rfl 3 (by decide) (hts _ q_247) (fun _ h9 => h9) rfl dJx35411_next_0502b_29 ?_
  refine va_get (D := (dC, dI)) (ci := 0) (v := .ref h2) (C := RJx4a65c) (T := TJx4a65c) (N := 3) hx hb hts in_Jx4a65c hown hK hP 1 rfl rfl 1 (by decide) (hts _ q_306) (fun _ h9 => h9) rfl dJx35411_next_0502b_32 ?_
  refine lv_astore_n (lv' := [(2, .ref h2), (1, .int 0), (0, .ref h0)]) hx hb dJx35411_next_0502b_35 rfl hl (by decide) rfl (fun ls hl => ?_)
  refine lv_iload_n hx hb dJx35411_next_0502b_36 rfl (lv_at hl 1 rfl) ?_
  refine lv_aload_n hx hb dJx35411_next_0502b_37 rfl (lv_at hl 0 rfl) ?_
  refine va_alen hx hb hK hP 2 0 rfl rfl (v := 10) rfl dJx35411_next_0502b_38 ?_
  refine lv_icmp_lt (tgt := 50) hx hb dJx35411_next_0502b_39 (by decide) (fun _ => ?_) (fun cz => absurd (by decide) cz)
  refine lv_aload_n hx hb dJx35411_next_0502b_50 rfl (lv_at hl 2 rfl) ?_
  refine lv_iload_n hx hb dJx35411_next_0502b_51 rfl (lv_at hl 1 rfl) ?_
  refine lv_iconst (v := 1) hx hb dJx35411_next_0502b_52 (by decide) ?_
  refine lv_iadd hx hb dJx35411_next_0502b_53 ?_
  refine lv_topi (fun y7 ey7 => ?_)
  obtain rfl : y7 = 1 := ey7.trans (by decide)
  refine va_put (D := (dC, dI)) (ci := 1) (v := .int 1) (ty := .int) (C := RJx35411) (T := TJx35411) (N := 4) hx hb hts in_Jx35411 tyJx35411 tyJx35411_ok nmJx35411 hown hK hP hD (va_Sre hS) 0 rfl rfl 0 (by decide) (hts _ q_259) (fun _ h9 => h9) rfl (by decide +kernel) rfl rfl (Nat.le_of_ble_eq_true rfl) dJx35411_next_0502b_54 (fun H8 _ hP hD hS' => ?_)
  have hG : s.heap.size + 0 ≤ H8.size := Nat.le_trans hG hS'.1
  have hS := va_Str hS hS'
  have hP : va_P (dC, dI) xCl [(h0, ce182 h1), (h1, ce167 h2), (h2, ce146 kc0 (z.2.2.1 128) (z.2.2.1 129) (z.2.2.1 130) (z.2.2.1 131))] H8 := hP
  have hD := vd_as hP hD rfl
  refine lv_aload_n hx hb dJx35411_next_0502b_57 rfl (lv_at hl 0 rfl) ?_
  refine lv_aload_n hx hb dJx35411_next_0502b_58 rfl (lv_at hl 2 rfl) ?_
  refine lv_iload_n hx hb dJx35411_next_0502b_59 rfl (lv_at hl 1 rfl) ?_
  refine lv_dup_x1 hx hb dJx35411_next_0502b_60 rfl rfl ?_
  refine va_put (D := (dC, dI)) (ci := 1) (v := .int 0) (ty := .int) (C := RJx35411) (T := TJx35411) (N := 4) hx hb hts in_Jx35411 tyJx35411 tyJx35411_ok nmJx35411 hown hK hP hD (va_Sre hS) 0 rfl rfl 1 (by decide) (hts _ q_249) (fun _ h9 => h9) rfl (by decide +kernel) rfl rfl (Nat.le_of_ble_eq_true rfl) dJx35411_next_0502b_61 (fun H9 _ hP hD hS' => ?_)
  have hG : s.heap.size + 0 ≤ H9.size := Nat.le_trans hG hS'.1
  have hS := va_Str hS hS'
  have hP : va_P (dC, dI) xCl [(h0, ce183 h1), (h1, ce167 h2), (h2, ce146 kc0 (z.2.2.1 128) (z.2.2.1 129) (z.2.2.1 130) (z.2.2.1 131))] H9 := hP
  have hD := vd_as hP hD rfl
  refine va_aldq hx hb hK hP 2 0 rfl rfl (i := 0) (by unfold vp_in; decide) dJx35411_next_0502b_64 ?_
  refine W.eq (g2 := F0 m 65 ls [.ref (z.2.2.1 128)]) rfl ?_
  exact W.aret (v := .ref (z.2.2.1 128)) hx hb hr (by first | exact Or.inl ⟨_, rfl⟩ | exact Or.inr ⟨_, rfl⟩) (Or.inr ⟨_, rfl⟩) (fun t9 ht9 hW9 => ⟨⟨(), (z.2.2.1 128), rfl, trivial, ⟨rfl, ⟨pq_mk2 hP hD hK [0, 1, 2] [0] rfl rfl rfl ht9 hW9, by rw [ht9]; exact Nat.le_trans (Nat.add_le_add_left (Nat.le_of_ble_eq_true rfl) _) hG⟩⟩⟩, hS.F ht9⟩) hS.2.2 dJx35411_next_0502b_65

set_option maxHeartbeats 4000000 in
set_option maxRecDepth 100000 in
theorem k342_hasNext (l : Launch) (hl9 : l.stackTraces = false) (dC : Nat → ClassId) (dI : Nat → Nat → Nat) (z : XZ) (h0 h1 : Nat) (o0 : Nat) (sz : Nat) : Met l yJx35411_hasNext_aae02 (.code yJx35411_hasNext_aae02 cJx35411_hasNext_aae02 1 (some .boolean) :: wsL_law) ({ frames := 0, cells := 0, slots := 0, locals := 0 }) (va_Pc [.ref h0] (PC (dC, dI) [(h0, ce183 h1), (h1, ce167 o0)] [] sz z)) (va_Qi (fun (r : Int32) (_ : Unit) => r = 1) (fun (_ : Unit) (t : State) => PG (dC, dI) [(h0, ce183 h1), (h1, ce167 o0)] [] (va_A [(h0, ce183 h1), (h1, ce167 o0)] sz) sz 0 t) (va_A [(h0, ce183 h1), (h1, ce167 o0)] sz)) 0 0 (va_A [(h0, ce183 h1), (h1, ce167 o0)] sz) := by
  refine Met.ofW (cc := cJx35411_hasNext_aae02) (maxL := 1) (ret := (some .boolean)) (by decide) rfl ?_
  intro p e s m args below meth c s₁ B hml hv
  obtain ⟨rfl, hsz, hP, hK, hD0, hX, hT⟩ := hv
  have hx := B.exec
  have hb := B.bytes
  have hr := B.returns
  have hts0 := atoms_spec (ws := .code yJx35411_hasNext_aae02 cJx35411_hasNext_aae02 1 (some .boolean) :: wsL_law) B.pre
  have hts := xTail hts0
  have hown : s.vm.findClass RJx35411 = some m.cls := xown B.named rfl
  have hlocks := B.notSynchronized
  subst hsz
  have hD := hD0.self (sz := s.heap.size)
  generalize hAe : va_A [(h0, ce183 h1), (h1, ce167 o0)] s.heap.size = A at hD hX ⊢
  have hA : ∀ q : Nat, s.heap.size ≤ q → A q := fun q h => by rw [← hAe]; exact Or.inr h
  have hS : va_S A s.heap s.heap [] := va_S.rf
  have hG : s.heap.size + 0 ≤ s.heap.size := Nat.le_refl _
  have hl := lv_entry ([.ref h0]) (n := 1) (Nat.le_of_ble_eq_true rfl)
  rw [lg_entry_eq]
  generalize (lg_sl ([.ref h0]) ++ List.replicate (1 - (lg_sl ([.ref h0])).length) Slot.unset).toArray = ls at hl ⊢
  have hl : lv_has ls 1 [(0, .ref h0)] := hl
  refine lv_aload_n hx hb dJx35411_hasNext_aae02_0 rfl (lv_at hl 0 rfl) ?_
  refine va_get (D := (dC, dI)) (ci := 1) (v := .int 1) (C := RJx35411) (T := TJx35411) (N := 4) hx hb hts in_Jx35411 hown hK hP 0 rfl rfl 0 (by decide) (hts _ q_259) (fun _ h9 => h9) rfl dJx35411_hasNext_aae02_1 ?_
  refine lv_aload_n hx hb dJx35411_hasNext_aae02_4 rfl (lv_at hl 0 rfl) ?_
  refine va_get (D := (dC, dI)) (ci := 1) (v := .ref h1) (C := RJx35411) (T := TJx35411) (N := 4) hx hb hts in_Jx35411 hown hK hP 0 rfl rfl 3 (by decide) (hts _ q_247) (fun _ h9 => h9) rfl dJx35411_hasNext_aae02_5 ?_
  refine va_getN (D := (dC, dI)) (ci := 0) (v := .int 4) (C := RJx4a65c) (T := TJx4a65c) (N := 3) hx hb hts in_Jx4a65c hown hK hP 1 rfl rfl 2 (by decide) (va_Nw.use rfl hT.2.2.2.2.1) (fun _ h9 => h9) rfl dJx35411_hasNext_aae02_8 ?_
  refine lv_icmp_eq (tgt := 18) hx hb dJx35411_hasNext_aae02_11 (by decide) (fun cz => absurd cz (by decide)) (fun _ => ?_)
  refine lv_iconst (v := 1) hx hb dJx35411_hasNext_aae02_14 (by decide) ?_
  refine lv_goto (tgt := 19) hx hb dJx35411_hasNext_aae02_15 (by decide) ?_
  exact W.zret (v := 1) (ty := .boolean) hx hb hr rfl (fun t9 ht9 hW9 => ⟨⟨1, (), rfl, rfl, ⟨pq_mk2 hP hD hK [0, 1] [] rfl rfl rfl ht9 hW9, by rw [ht9]; exact Nat.le_trans (Nat.add_le_add_left (Nat.le_of_ble_eq_true rfl) _) hG⟩⟩, hS.F ht9⟩) hS.2.2 dJx35411_hasNext_aae02_19

set_option maxHeartbeats 4000000 in
set_option maxRecDepth 100000 in
theorem k343_checkForComodification (l : Launch) (hl9 : l.stackTraces = false) (dC : Nat → ClassId) (dI : Nat → Nat → Nat) (z : XZ) (h0 h1 : Nat) (o0 : Nat) (sz : Nat) : Met l yJx35411_checkForComodification_da8c8 (.code yJx35411_checkForComodification_da8c8 cJx35411_checkForComodification_da8c8 1 none :: wsL_law) ({ frames := 0, cells := 0, slots := 0, locals := 0 }) (va_Pc [.ref h0] (PC (dC, dI) [(h0, ce183 h1), (h1, ce167 o0)] [] sz z)) (va_Qv (fun (_ : Unit) => True) (fun (_ : Unit) (t : State) => PG (dC, dI) [(h0, ce183 h1), (h1, ce167 o0)] [] (va_A [(h0, ce183 h1), (h1, ce167 o0)] sz) sz 0 t) (va_A [(h0, ce183 h1), (h1, ce167 o0)] sz)) 0 0 (va_A [(h0, ce183 h1), (h1, ce167 o0)] sz) := by
  refine Met.ofW (cc := cJx35411_checkForComodification_da8c8) (maxL := 1) (ret := none) (by decide) rfl ?_
  intro p e s m args below meth c s₁ B hml hv
  obtain ⟨rfl, hsz, hP, hK, hD0, hX, hT⟩ := hv
  have hx := B.exec
  have hb := B.bytes
  have hr := B.returns
  have hts0 := atoms_spec (ws := .code yJx35411_checkForComodification_da8c8 cJx35411_checkForComodification_da8c8 1 none :: wsL_law) B.pre
  have hts := xTail hts0
  have hown : s.vm.findClass RJx35411 = some m.cls := xown B.named rfl
  have hlocks := B.notSynchronized
  subst hsz
  have hD := hD0.self (sz := s.heap.size)
  generalize hAe : va_A [(h0, ce183 h1), (h1, ce167 o0)] s.heap.size = A at hD hX ⊢
  have hA : ∀ q : Nat, s.heap.size ≤ q → A q := fun q h => by rw [← hAe]; exact Or.inr h
  have hS : va_S A s.heap s.heap [] := va_S.rf
  have hG : s.heap.size + 0 ≤ s.heap.size := Nat.le_refl _
  have hl := lv_entry ([.ref h0]) (n := 1) (Nat.le_of_ble_eq_true rfl)
  rw [lg_entry_eq]
  generalize (lg_sl ([.ref h0]) ++ List.replicate (1 - (lg_sl ([.ref h0])).length) Slot.unset).toArray = ls at hl ⊢
  have hl : lv_has ls 1 [(0, .ref h0)] := hl
  refine lv_aload_n hx hb dJx35411_checkForComodification_da8c8_0 rfl (lv_at hl 0 rfl) ?_
  refine va_get (D := (dC, dI)) (ci := 1) (v := .ref h1) (C := RJx35411) (T := TJx35411) (N := 4) hx hb hts in_Jx35411 hown hK hP 0 rfl rfl 3 (by decide) (hts _ q_247) (fun _ h9 => h9) rfl dJx35411_checkForComodification_da8c8_1 ?_
  refine va_get (D := (dC, dI)) (ci := 0) (v := .int 14) (C := RJx4a65c) (T := TJx4a65c) (N := 3) hx hb hts in_Jx4a65c hown hK hP 1 rfl rfl 0 (by decide) (hts _ q_250) (u_same (hts _ q_107)) rfl dJx35411_checkForComodification_da8c8_4 ?_
  refine lv_aload_n hx hb dJx35411_checkForComodification_da8c8_7 rfl (lv_at hl 0 rfl) ?_
  refine va_get (D := (dC, dI)) (ci := 1) (v := .int 14) (C := RJx35411) (T := TJx35411) (N := 4) hx hb hts in_Jx35411 hown hK hP 0 rfl rfl 2 (by decide) (hts _ q_251) (fun _ h9 => h9) rfl dJx35411_checkForComodification_da8c8_8 ?_
  refine lv_icmp_eq (tgt := 22) hx hb dJx35411_checkForComodification_da8c8_11 (by decide) (fun _ => ?_) (fun cz => absurd (by decide) cz)
  exact W.vret hx hb hr (fun t9 ht9 hW9 => ⟨⟨(), rfl, trivial, ⟨pq_mk2 hP hD hK [0, 1] [] rfl rfl rfl ht9 hW9, by rw [ht9]; exact Nat.le_trans (Nat.add_le_add_left (Nat.le_of_ble_eq_true rfl) _) hG⟩⟩, hS.F ht9⟩) hS.2.2 dJx35411_checkForComodification_da8c8_22

set_option maxHeartbeats 4000000 in
set_option maxRecDepth 100000 in
theorem k344_next (l : Launch) (hl9 : l.stackTraces = false) (dC : Nat → ClassId) (dI : Nat → Nat → Nat) (z : XZ) (h0 h1 h2 : Nat) (sz : Nat) (kc0 : ClassId) : Met l yJx35411_next_0502b (.code yJx35411_next_0502b cJx35411_next_0502b 3 (some (.object "java/lang/Object")) :: wsL_law) ({ frames := 1, cells := 0, slots := 0, locals := 20 }) (va_Pc [.ref h0] (PC (dC, dI) [(h0, ce183 h1), (h1, ce167 h2), (h2, ce146 kc0 (z.2.2.1 128) (z.2.2.1 129) (z.2.2.1 130) (z.2.2.1 131))] [(kc0, .object "java/lang/Object")] sz z)) (va_Qr (fun (_ : Unit) => True) (fun (_ : Unit) (ra : Nat) (t : State) => ra = (z.2.2.1 129) ∧ PG (dC, dI) [(h0, ce185 h1), (h1, ce167 h2), (h2, ce146 kc0 (z.2.2.1 128) (z.2.2.1 129) (z.2.2.1 130) (z.2.2.1 131))] [(kc0, .object "java/lang/Object")] (va_A [(h0, ce183 h1), (h1, ce167 h2), (h2, ce146 kc0 (z.2.2.1 128) (z.2.2.1 129) (z.2.2.1 130) (z.2.2.1 131))] sz) sz 0 t) (va_A [(h0, ce183 h1), (h1, ce167 h2), (h2, ce146 kc0 (z.2.2.1 128) (z.2.2.1 129) (z.2.2.1 130) (z.2.2.1 131))] sz)) 0 0 (va_A [(h0, ce183 h1), (h1, ce167 h2), (h2, ce146 kc0 (z.2.2.1 128) (z.2.2.1 129) (z.2.2.1 130) (z.2.2.1 131))] sz) := by
  refine Met.ofW (cc := cJx35411_next_0502b) (maxL := 3) (ret := (some (.object "java/lang/Object"))) (by decide) rfl ?_
  intro p e s m args below meth c s₁ B hml hv
  obtain ⟨rfl, hsz, hP, hK, hD0, hX, hT⟩ := hv
  have hx := B.exec
  have hb := B.bytes
  have hr := B.returns
  have hts0 := atoms_spec (ws := .code yJx35411_next_0502b cJx35411_next_0502b 3 (some (.object "java/lang/Object")) :: wsL_law) B.pre
  have hts := xTail hts0
  have hown : s.vm.findClass RJx35411 = some m.cls := xown B.named rfl
  have hlocks := B.notSynchronized
  subst hsz
  have hD := hD0.self (sz := s.heap.size)
  generalize hAe : va_A [(h0, ce183 h1), (h1, ce167 h2), (h2, ce146 kc0 (z.2.2.1 128) (z.2.2.1 129) (z.2.2.1 130) (z.2.2.1 131))] s.heap.size = A at hD hX ⊢
  have hA : ∀ q : Nat, s.heap.size ≤ q → A q := fun q h => by rw [← hAe]; exact Or.inr h
  have hS : va_S A s.heap s.heap [] := va_S.rf
  have hG : s.heap.size + 0 ≤ s.heap.size := Nat.le_refl _
  have hl := lv_entry ([.ref h0]) (n := 3) (Nat.le_of_ble_eq_true rfl)
  rw [lg_entry_eq]
  generalize (lg_sl ([.ref h0]) ++ List.replicate (3 - (lg_sl ([.ref h0])).length) Slot.unset).toArray = ls at hl ⊢
  have hl : lv_has ls 3 [(0, .ref h0)] := hl
  refine lv_aload_n hx hb dJx35411_next_0502b_0 rfl (lv_at hl 0 rfl) ?_
  have hM3 := k343_checkForComodification l hl9 dC dI z h0 h1 h2 s.heap.size
  obtain ⟨hF1, hC4⟩ := pc_M hM3 hP hD hK hS hX hT hA [0, 1] [] rfl rfl rfl
  refine va_callv (va_runV (As := []) (rest := []) ⟨hx, hb, hml, hown, hts⟩ hM3 (cwV 0 hts (gV q_303 q_304 q_305 q_246 q_302) rfl rfl rfl hV_Jx35411_checkForComodification_da8c8 ⟨Nat.le_of_ble_eq_true rfl, Nat.le_of_ble_eq_true rfl⟩) ⟨pc_blind, va_recv hK hP (ci := 1) (q := (RJx35411, TJx35411, 4)) (q0 := 0) rfl rfl, fun U hU hW => ⟨rfl, hC4 U hU hW⟩⟩ rfl rfl hl.1 rfl (lv_room (Nat.le_of_ble_eq_true rfl)) dJx35411_next_0502b_1 ⟨(Nat.le_of_ble_eq_true rfl), (Nat.le_of_ble_eq_true rfl)⟩) hS (fun q9 _ h9 => hF1 q9 h9) hF1 (fun u5 t5 H5 L5 ht5 hvm5 hw5 hB5 hz5 hk5 hS => ?_)
  have hP := pq_keep hP hD [0, 1] rfl hk5 hB5.1 ht5
  have hG : s.heap.size + 0 ≤ H5.size := Nat.le_trans hG hz5
  refine lv_aload_n hx hb dJx35411_next_0502b_4 rfl (lv_at hl 0 rfl) ?_
  refine va_get (D := (dC, dI)) (ci := 1) (v := .int 1) (C := RJx35411) (T := TJx35411) (N := 4) hx hb hts in_Jx35411 hown hK hP 0 rfl rfl 0 (by decide) (hts _ q_259) (fun _ h9 => h9) rfl dJx35411_next_0502b_5 ?_
  refine lv_istore_n (lv' := [(1, .int 1), (0, .ref h0)]) hx hb dJx35411_next_0502b_8 rfl hl (by decide) rfl (fun ls hl => ?_)
  refine lv_iload_n hx hb dJx35411_next_0502b_9 rfl (lv_at hl 0 rfl) ?_
  refine lv_aload_n hx hb dJx35411_next_0502b_10 rfl (lv_at hl 1 rfl) ?_
  refine va_get (D := (dC, dI)) (ci := 1) (v := .ref h1) (C := RJx35411) (T := TJx35411) (N := 4) hx hb hts in_Jx35411 hown hK hP 0 rfl rfl 3 (by decide) (hts _ q_247) (fun _ h9 => h9) rfl dJx35411_next_0502b_11 ?_
  refine va_getN (D := (dC, dI)) (ci := 0) (v := .int 4) (C := RJx4a65c) (T := TJx4a65c) (N := 3) hx hb hts in_Jx4a65c hown hK hP 1 rfl rfl 2 (by decide) (va_Nw.use rfl hT.2.2.2.2.1) (fun _ h9 => h9) rfl dJx35411_next_0502b_14 ?_
  refine lv_icmp_lt (tgt := 28) hx hb dJx35411_next_0502b_17 (by decide) (fun _ => ?_) (fun cz => absurd (by decide) cz)
  refine lv_aload_n hx hb dJx35411_next_0502b_28 rfl (lv_at hl 1 rfl) ?_
  refine va_get (D := (dC, dI)) (ci := 1) (v := .ref h1) (C := RJx35411) (T := TJx35411) (N := 4) hx hb hts in_Jx35411 hown hK hP 0 rfl rfl 3 (by decide) (hts _ q_247) (fun _ h9 => h9) rfl dJx35411_next_0502b_29 ?_
  refine va_get (D := (dC, dI)) (ci := 0) (v := .ref h2) (C := RJx4a65c) (T := TJx4a65c) (N := 3) hx hb hts in_Jx4a65c hown hK hP 1 rfl rfl 1 (by decide) (hts _ q_306) (fun _ h9 => h9) rfl dJx35411_next_0502b_32 ?_
  refine lv_astore_n (lv' := [(2, .ref h2), (1, .int 1), (0, .ref h0)]) hx hb dJx35411_next_0502b_35 rfl hl (by decide) rfl (fun ls hl => ?_)
  refine lv_iload_n hx hb dJx35411_next_0502b_36 rfl (lv_at hl 1 rfl) ?_
  refine lv_aload_n hx hb dJx35411_next_0502b_37 rfl (lv_at hl 0 rfl) ?_
  refine va_alen hx hb hK hP 2 0 rfl rfl (v := 10) rfl dJx35411_next_0502b_38 ?_
  refine lv_icmp_lt (tgt := 50) hx hb dJx35411_next_0502b_39 (by decide) (fun _ => ?_) (fun cz => absurd (by decide) cz)
  refine lv_aload_n hx hb dJx35411_next_0502b_50 rfl (lv_at hl 2 rfl) ?_
  refine lv_iload_n hx hb dJx35411_next_0502b_51 rfl (lv_at hl 1 rfl) ?_
  refine lv_iconst (v := 1) hx hb dJx35411_next_0502b_52 (by decide) ?_
  refine lv_iadd hx hb dJx35411_next_0502b_53 ?_
  refine lv_topi (fun y7 ey7 => ?_)
  obtain rfl : y7 = 2 := ey7.trans (by decide)
  refine va_put (D := (dC, dI)) (ci := 1) (v := .int 2) (ty := .int) (C := RJx35411) (T := TJx35411) (N := 4) hx hb hts in_Jx35411 tyJx35411 tyJx35411_ok nmJx35411 hown hK hP hD (va_Sre hS) 0 rfl rfl 0 (by decide) (hts _ q_259) (fun _ h9 => h9) rfl (by decide +kernel) rfl rfl (Nat.le_of_ble_eq_true rfl) dJx35411_next_0502b_54 (fun H8 _ hP hD hS' => ?_)
  have hG : s.heap.size + 0 ≤ H8.size := Nat.le_trans hG hS'.1
  have hS := va_Str hS hS'
  have hP : va_P (dC, dI) xCl [(h0, ce184 h1), (h1, ce167 h2), (h2, ce146 kc0 (z.2.2.1 128) (z.2.2.1 129) (z.2.2.1 130) (z.2.2.1 131))] H8 := hP
  have hD := vd_as hP hD rfl
  refine lv_aload_n hx hb dJx35411_next_0502b_57 rfl (lv_at hl 0 rfl) ?_
  refine lv_aload_n hx hb dJx35411_next_0502b_58 rfl (lv_at hl 2 rfl) ?_
  refine lv_iload_n hx hb dJx35411_next_0502b_59 rfl (lv_at hl 1 rfl) ?_
  refine lv_dup_x1 hx hb dJx35411_next_0502b_60 rfl rfl ?_
  refine va_put (D := (dC, dI)) (ci := 1) (v := .int 1) (ty := .int) (C := RJx35411) (T := TJx35411) (N := 4) hx hb hts in_Jx35411 tyJx35411 tyJx35411_ok nmJx35411 hown hK hP hD (va_Sre hS) 0 rfl rfl 1 (by decide) (hts _ q_249) (fun _ h9 => h9) rfl (by decide +kernel) rfl rfl (Nat.le_of_ble_eq_true rfl) dJx35411_next_0502b_61 (fun H9 _ hP hD hS' => ?_)
  have hG : s.heap.size + 0 ≤ H9.size := Nat.le_trans hG hS'.1
  have hS := va_Str hS hS'
  have hP : va_P (dC, dI) xCl [(h0, ce185 h1), (h1, ce167 h2), (h2, ce146 kc0 (z.2.2.1 128) (z.2.2.1 129) (z.2.2.1 130) (z.2.2.1 131))] H9 := hP
  have hD := vd_as hP hD rfl
  refine va_aldq hx hb hK hP 2 0 rfl rfl (i := 1) (by unfold vp_in; decide) dJx35411_next_0502b_64 ?_
  refine W.eq (g2 := F0 m 65 ls [.ref (z.2.2.1 129)]) rfl ?_
  exact W.aret (v := .ref (z.2.2.1 129)) hx hb hr (by first | exact Or.inl ⟨_, rfl⟩ | exact Or.inr ⟨_, rfl⟩) (Or.inr ⟨_, rfl⟩) (fun t9 ht9 hW9 => ⟨⟨(), (z.2.2.1 129), rfl, trivial, ⟨rfl, ⟨pq_mk2 hP hD hK [0, 1, 2] [0] rfl rfl rfl ht9 hW9, by rw [ht9]; exact Nat.le_trans (Nat.add_le_add_left (Nat.le_of_ble_eq_true rfl) _) hG⟩⟩⟩, hS.F ht9⟩) hS.2.2 dJx35411_next_0502b_65

set_option maxHeartbeats 4000000 in
set_option maxRecDepth 100000 in
theorem k345_hasNext (l : Launch) (hl9 : l.stackTraces = false) (dC : Nat → ClassId) (dI : Nat → Nat → Nat) (z : XZ) (h0 h1 : Nat) (o0 : Nat) (sz : Nat) : Met l yJx35411_hasNext_aae02 (.code yJx35411_hasNext_aae02 cJx35411_hasNext_aae02 1 (some .boolean) :: wsL_law) ({ frames := 0, cells := 0, slots := 0, locals := 0 }) (va_Pc [.ref h0] (PC (dC, dI) [(h0, ce185 h1), (h1, ce167 o0)] [] sz z)) (va_Qi (fun (r : Int32) (_ : Unit) => r = 1) (fun (_ : Unit) (t : State) => PG (dC, dI) [(h0, ce185 h1), (h1, ce167 o0)] [] (va_A [(h0, ce185 h1), (h1, ce167 o0)] sz) sz 0 t) (va_A [(h0, ce185 h1), (h1, ce167 o0)] sz)) 0 0 (va_A [(h0, ce185 h1), (h1, ce167 o0)] sz) := by
  refine Met.ofW (cc := cJx35411_hasNext_aae02) (maxL := 1) (ret := (some .boolean)) (by decide) rfl ?_
  intro p e s m args below meth c s₁ B hml hv
  obtain ⟨rfl, hsz, hP, hK, hD0, hX, hT⟩ := hv
  have hx := B.exec
  have hb := B.bytes
  have hr := B.returns
  have hts0 := atoms_spec (ws := .code yJx35411_hasNext_aae02 cJx35411_hasNext_aae02 1 (some .boolean) :: wsL_law) B.pre
  have hts := xTail hts0
  have hown : s.vm.findClass RJx35411 = some m.cls := xown B.named rfl
  have hlocks := B.notSynchronized
  subst hsz
  have hD := hD0.self (sz := s.heap.size)
  generalize hAe : va_A [(h0, ce185 h1), (h1, ce167 o0)] s.heap.size = A at hD hX ⊢
  have hA : ∀ q : Nat, s.heap.size ≤ q → A q := fun q h => by rw [← hAe]; exact Or.inr h
  have hS : va_S A s.heap s.heap [] := va_S.rf
  have hG : s.heap.size + 0 ≤ s.heap.size := Nat.le_refl _
  have hl := lv_entry ([.ref h0]) (n := 1) (Nat.le_of_ble_eq_true rfl)
  rw [lg_entry_eq]
  generalize (lg_sl ([.ref h0]) ++ List.replicate (1 - (lg_sl ([.ref h0])).length) Slot.unset).toArray = ls at hl ⊢
  have hl : lv_has ls 1 [(0, .ref h0)] := hl
  refine lv_aload_n hx hb dJx35411_hasNext_aae02_0 rfl (lv_at hl 0 rfl) ?_
  refine va_get (D := (dC, dI)) (ci := 1) (v := .int 2) (C := RJx35411) (T := TJx35411) (N := 4) hx hb hts in_Jx35411 hown hK hP 0 rfl rfl 0 (by decide) (hts _ q_259) (fun _ h9 => h9) rfl dJx35411_hasNext_aae02_1 ?_
  refine lv_aload_n hx hb dJx35411_hasNext_aae02_4 rfl (lv_at hl 0 rfl) ?_
  refine va_get (D := (dC, dI)) (ci := 1) (v := .ref h1) (C := RJx35411) (T := TJx35411) (N := 4) hx hb hts in_Jx35411 hown hK hP 0 rfl rfl 3 (by decide) (hts _ q_247) (fun _ h9 => h9) rfl dJx35411_hasNext_aae02_5 ?_
  refine va_getN (D := (dC, dI)) (ci := 0) (v := .int 4) (C := RJx4a65c) (T := TJx4a65c) (N := 3) hx hb hts in_Jx4a65c hown hK hP 1 rfl rfl 2 (by decide) (va_Nw.use rfl hT.2.2.2.2.1) (fun _ h9 => h9) rfl dJx35411_hasNext_aae02_8 ?_
  refine lv_icmp_eq (tgt := 18) hx hb dJx35411_hasNext_aae02_11 (by decide) (fun cz => absurd cz (by decide)) (fun _ => ?_)
  refine lv_iconst (v := 1) hx hb dJx35411_hasNext_aae02_14 (by decide) ?_
  refine lv_goto (tgt := 19) hx hb dJx35411_hasNext_aae02_15 (by decide) ?_
  exact W.zret (v := 1) (ty := .boolean) hx hb hr rfl (fun t9 ht9 hW9 => ⟨⟨1, (), rfl, rfl, ⟨pq_mk2 hP hD hK [0, 1] [] rfl rfl rfl ht9 hW9, by rw [ht9]; exact Nat.le_trans (Nat.add_le_add_left (Nat.le_of_ble_eq_true rfl) _) hG⟩⟩, hS.F ht9⟩) hS.2.2 dJx35411_hasNext_aae02_19

set_option maxHeartbeats 4000000 in
set_option maxRecDepth 100000 in
theorem k346_checkForComodification (l : Launch) (hl9 : l.stackTraces = false) (dC : Nat → ClassId) (dI : Nat → Nat → Nat) (z : XZ) (h0 h1 : Nat) (o0 : Nat) (sz : Nat) : Met l yJx35411_checkForComodification_da8c8 (.code yJx35411_checkForComodification_da8c8 cJx35411_checkForComodification_da8c8 1 none :: wsL_law) ({ frames := 0, cells := 0, slots := 0, locals := 0 }) (va_Pc [.ref h0] (PC (dC, dI) [(h0, ce185 h1), (h1, ce167 o0)] [] sz z)) (va_Qv (fun (_ : Unit) => True) (fun (_ : Unit) (t : State) => PG (dC, dI) [(h0, ce185 h1), (h1, ce167 o0)] [] (va_A [(h0, ce185 h1), (h1, ce167 o0)] sz) sz 0 t) (va_A [(h0, ce185 h1), (h1, ce167 o0)] sz)) 0 0 (va_A [(h0, ce185 h1), (h1, ce167 o0)] sz) := by
  refine Met.ofW (cc := cJx35411_checkForComodification_da8c8) (maxL := 1) (ret := none) (by decide) rfl ?_
  intro p e s m args below meth c s₁ B hml hv
  obtain ⟨rfl, hsz, hP, hK, hD0, hX, hT⟩ := hv
  have hx := B.exec
  have hb := B.bytes
  have hr := B.returns
  have hts0 := atoms_spec (ws := .code yJx35411_checkForComodification_da8c8 cJx35411_checkForComodification_da8c8 1 none :: wsL_law) B.pre
  have hts := xTail hts0
  have hown : s.vm.findClass RJx35411 = some m.cls := xown B.named rfl
  have hlocks := B.notSynchronized
  subst hsz
  have hD := hD0.self (sz := s.heap.size)
  generalize hAe : va_A [(h0, ce185 h1), (h1, ce167 o0)] s.heap.size = A at hD hX ⊢
  have hA : ∀ q : Nat, s.heap.size ≤ q → A q := fun q h => by rw [← hAe]; exact Or.inr h
  have hS : va_S A s.heap s.heap [] := va_S.rf
  have hG : s.heap.size + 0 ≤ s.heap.size := Nat.le_refl _
  have hl := lv_entry ([.ref h0]) (n := 1) (Nat.le_of_ble_eq_true rfl)
  rw [lg_entry_eq]
  generalize (lg_sl ([.ref h0]) ++ List.replicate (1 - (lg_sl ([.ref h0])).length) Slot.unset).toArray = ls at hl ⊢
  have hl : lv_has ls 1 [(0, .ref h0)] := hl
  refine lv_aload_n hx hb dJx35411_checkForComodification_da8c8_0 rfl (lv_at hl 0 rfl) ?_
  refine va_get (D := (dC, dI)) (ci := 1) (v := .ref h1) (C := RJx35411) (T := TJx35411) (N := 4) hx hb hts in_Jx35411 hown hK hP 0 rfl rfl 3 (by decide) (hts _ q_247) (fun _ h9 => h9) rfl dJx35411_checkForComodification_da8c8_1 ?_
  refine va_get (D := (dC, dI)) (ci := 0) (v := .int 14) (C := RJx4a65c) (T := TJx4a65c) (N := 3) hx hb hts in_Jx4a65c hown hK hP 1 rfl rfl 0 (by decide) (hts _ q_250) (u_same (hts _ q_107)) rfl dJx35411_checkForComodification_da8c8_4 ?_
  refine lv_aload_n hx hb dJx35411_checkForComodification_da8c8_7 rfl (lv_at hl 0 rfl) ?_
  refine va_get (D := (dC, dI)) (ci := 1) (v := .int 14) (C := RJx35411) (T := TJx35411) (N := 4) hx hb hts in_Jx35411 hown hK hP 0 rfl rfl 2 (by decide) (hts _ q_251) (fun _ h9 => h9) rfl dJx35411_checkForComodification_da8c8_8 ?_
  refine lv_icmp_eq (tgt := 22) hx hb dJx35411_checkForComodification_da8c8_11 (by decide) (fun _ => ?_) (fun cz => absurd (by decide) cz)
  exact W.vret hx hb hr (fun t9 ht9 hW9 => ⟨⟨(), rfl, trivial, ⟨pq_mk2 hP hD hK [0, 1] [] rfl rfl rfl ht9 hW9, by rw [ht9]; exact Nat.le_trans (Nat.add_le_add_left (Nat.le_of_ble_eq_true rfl) _) hG⟩⟩, hS.F ht9⟩) hS.2.2 dJx35411_checkForComodification_da8c8_22

set_option maxHeartbeats 4000000 in
set_option maxRecDepth 100000 in
theorem k347_next (l : Launch) (hl9 : l.stackTraces = false) (dC : Nat → ClassId) (dI : Nat → Nat → Nat) (z : XZ) (h0 h1 h2 : Nat) (sz : Nat) (kc0 : ClassId) : Met l yJx35411_next_0502b (.code yJx35411_next_0502b cJx35411_next_0502b 3 (some (.object "java/lang/Object")) :: wsL_law) ({ frames := 1, cells := 0, slots := 0, locals := 20 }) (va_Pc [.ref h0] (PC (dC, dI) [(h0, ce185 h1), (h1, ce167 h2), (h2, ce146 kc0 (z.2.2.1 128) (z.2.2.1 129) (z.2.2.1 130) (z.2.2.1 131))] [(kc0, .object "java/lang/Object")] sz z)) (va_Qr (fun (_ : Unit) => True) (fun (_ : Unit) (ra : Nat) (t : State) => ra = (z.2.2.1 130) ∧ PG (dC, dI) [(h0, ce187 h1), (h1, ce167 h2), (h2, ce146 kc0 (z.2.2.1 128) (z.2.2.1 129) (z.2.2.1 130) (z.2.2.1 131))] [(kc0, .object "java/lang/Object")] (va_A [(h0, ce185 h1), (h1, ce167 h2), (h2, ce146 kc0 (z.2.2.1 128) (z.2.2.1 129) (z.2.2.1 130) (z.2.2.1 131))] sz) sz 0 t) (va_A [(h0, ce185 h1), (h1, ce167 h2), (h2, ce146 kc0 (z.2.2.1 128) (z.2.2.1 129) (z.2.2.1 130) (z.2.2.1 131))] sz)) 0 0 (va_A [(h0, ce185 h1), (h1, ce167 h2), (h2, ce146 kc0 (z.2.2.1 128) (z.2.2.1 129) (z.2.2.1 130) (z.2.2.1 131))] sz) := by
  refine Met.ofW (cc := cJx35411_next_0502b) (maxL := 3) (ret := (some (.object "java/lang/Object"))) (by decide) rfl ?_
  intro p e s m args below meth c s₁ B hml hv
  obtain ⟨rfl, hsz, hP, hK, hD0, hX, hT⟩ := hv
  have hx := B.exec
  have hb := B.bytes
  have hr := B.returns
  have hts0 := atoms_spec (ws := .code yJx35411_next_0502b cJx35411_next_0502b 3 (some (.object "java/lang/Object")) :: wsL_law) B.pre
  have hts := xTail hts0
  have hown : s.vm.findClass RJx35411 = some m.cls := xown B.named rfl
  have hlocks := B.notSynchronized
  subst hsz
  have hD := hD0.self (sz := s.heap.size)
  generalize hAe : va_A [(h0, ce185 h1), (h1, ce167 h2), (h2, ce146 kc0 (z.2.2.1 128) (z.2.2.1 129) (z.2.2.1 130) (z.2.2.1 131))] s.heap.size = A at hD hX ⊢
  have hA : ∀ q : Nat, s.heap.size ≤ q → A q := fun q h => by rw [← hAe]; exact Or.inr h
  have hS : va_S A s.heap s.heap [] := va_S.rf
  have hG : s.heap.size + 0 ≤ s.heap.size := Nat.le_refl _
  have hl := lv_entry ([.ref h0]) (n := 3) (Nat.le_of_ble_eq_true rfl)
  rw [lg_entry_eq]
  generalize (lg_sl ([.ref h0]) ++ List.replicate (3 - (lg_sl ([.ref h0])).length) Slot.unset).toArray = ls at hl ⊢
  have hl : lv_has ls 3 [(0, .ref h0)] := hl
  refine lv_aload_n hx hb dJx35411_next_0502b_0 rfl (lv_at hl 0 rfl) ?_
  have hM3 := k346_checkForComodification l hl9 dC dI z h0 h1 h2 s.heap.size
  obtain ⟨hF1, hC4⟩ := pc_M hM3 hP hD hK hS hX hT hA [0, 1] [] rfl rfl rfl
  refine va_callv (va_runV (As := []) (rest := []) ⟨hx, hb, hml, hown, hts⟩ hM3 (cwV 0 hts (gV q_303 q_304 q_305 q_246 q_302) rfl rfl rfl hV_Jx35411_checkForComodification_da8c8 ⟨Nat.le_of_ble_eq_true rfl, Nat.le_of_ble_eq_true rfl⟩) ⟨pc_blind, va_recv hK hP (ci := 1) (q := (RJx35411, TJx35411, 4)) (q0 := 0) rfl rfl, fun U hU hW => ⟨rfl, hC4 U hU hW⟩⟩ rfl rfl hl.1 rfl (lv_room (Nat.le_of_ble_eq_true rfl)) dJx35411_next_0502b_1 ⟨(Nat.le_of_ble_eq_true rfl), (Nat.le_of_ble_eq_true rfl)⟩) hS (fun q9 _ h9 => hF1 q9 h9) hF1 (fun u5 t5 H5 L5 ht5 hvm5 hw5 hB5 hz5 hk5 hS => ?_)
  have hP := pq_keep hP hD [0, 1] rfl hk5 hB5.1 ht5
  have hG : s.heap.size + 0 ≤ H5.size := Nat.le_trans hG hz5
  refine lv_aload_n hx hb dJx35411_next_0502b_4 rfl (lv_at hl 0 rfl) ?_
  refine va_get (D := (dC, dI)) (ci := 1) (v := .int 2) (C := RJx35411) (T := TJx35411) (N := 4) hx hb hts in_Jx35411 hown hK hP 0 rfl rfl 0 (by decide) (hts _ q_259) (fun _ h9 => h9) rfl dJx35411_next_0502b_5 ?_
  refine lv_istore_n (lv' := [(1, .int 2), (0, .ref h0)]) hx hb dJx35411_next_0502b_8 rfl hl (by decide) rfl (fun ls hl => ?_)
  refine lv_iload_n hx hb dJx35411_next_0502b_9 rfl (lv_at hl 0 rfl) ?_
  refine lv_aload_n hx hb dJx35411_next_0502b_10 rfl (lv_at hl 1 rfl) ?_
  refine va_get (D := (dC, dI)) (ci := 1) (v := .ref h1) (C := RJx35411) (T := TJx35411) (N := 4) hx hb hts in_Jx35411 hown hK hP 0 rfl rfl 3 (by decide) (hts _ q_247) (fun _ h9 => h9) rfl dJx35411_next_0502b_11 ?_
  refine va_getN (D := (dC, dI)) (ci := 0) (v := .int 4) (C := RJx4a65c) (T := TJx4a65c) (N := 3) hx hb hts in_Jx4a65c hown hK hP 1 rfl rfl 2 (by decide) (va_Nw.use rfl hT.2.2.2.2.1) (fun _ h9 => h9) rfl dJx35411_next_0502b_14 ?_
  refine lv_icmp_lt (tgt := 28) hx hb dJx35411_next_0502b_17 (by decide) (fun _ => ?_) (fun cz => absurd (by decide) cz)
  refine lv_aload_n hx hb dJx35411_next_0502b_28 rfl (lv_at hl 1 rfl) ?_
  refine va_get (D := (dC, dI)) (ci := 1) (v := .ref h1) (C := RJx35411) (T := TJx35411) (N := 4) hx hb hts in_Jx35411 hown hK hP 0 rfl rfl 3 (by decide) (hts _ q_247) (fun _ h9 => h9) rfl dJx35411_next_0502b_29 ?_
  refine va_get (D := (dC, dI)) (ci := 0) (v := .ref h2) (C := RJx4a65c) (T := TJx4a65c) (N := 3) hx hb hts in_Jx4a65c hown hK hP 1 rfl rfl 1 (by decide) (hts _ q_306) (fun _ h9 => h9) rfl dJx35411_next_0502b_32 ?_
  refine lv_astore_n (lv' := [(2, .ref h2), (1, .int 2), (0, .ref h0)]) hx hb dJx35411_next_0502b_35 rfl hl (by decide) rfl (fun ls hl => ?_)
  refine lv_iload_n hx hb dJx35411_next_0502b_36 rfl (lv_at hl 1 rfl) ?_
  refine lv_aload_n hx hb dJx35411_next_0502b_37 rfl (lv_at hl 0 rfl) ?_
  refine va_alen hx hb hK hP 2 0 rfl rfl (v := 10) rfl dJx35411_next_0502b_38 ?_
  refine lv_icmp_lt (tgt := 50) hx hb dJx35411_next_0502b_39 (by decide) (fun _ => ?_) (fun cz => absurd (by decide) cz)
  refine lv_aload_n hx hb dJx35411_next_0502b_50 rfl (lv_at hl 2 rfl) ?_
  refine lv_iload_n hx hb dJx35411_next_0502b_51 rfl (lv_at hl 1 rfl) ?_
  refine lv_iconst (v := 1) hx hb dJx35411_next_0502b_52 (by decide) ?_
  refine lv_iadd hx hb dJx35411_next_0502b_53 ?_
  refine lv_topi (fun y7 ey7 => ?_)
  obtain rfl : y7 = 3 := ey7.trans (by decide)
  refine va_put (D := (dC, dI)) (ci := 1) (v := .int 3) (ty := .int) (C := RJx35411) (T := TJx35411) (N := 4) hx hb hts in_Jx35411 tyJx35411 tyJx35411_ok nmJx35411 hown hK hP hD (va_Sre hS) 0 rfl rfl 0 (by decide) (hts _ q_259) (fun _ h9 => h9) rfl (by decide +kernel) rfl rfl (Nat.le_of_ble_eq_true rfl) dJx35411_next_0502b_54 (fun H8 _ hP hD hS' => ?_)
  have hG : s.heap.size + 0 ≤ H8.size := Nat.le_trans hG hS'.1
  have hS := va_Str hS hS'
  have hP : va_P (dC, dI) xCl [(h0, ce186 h1), (h1, ce167 h2), (h2, ce146 kc0 (z.2.2.1 128) (z.2.2.1 129) (z.2.2.1 130) (z.2.2.1 131))] H8 := hP
  have hD := vd_as hP hD rfl
  refine lv_aload_n hx hb dJx35411_next_0502b_57 rfl (lv_at hl 0 rfl) ?_
  refine lv_aload_n hx hb dJx35411_next_0502b_58 rfl (lv_at hl 2 rfl) ?_
  refine lv_iload_n hx hb dJx35411_next_0502b_59 rfl (lv_at hl 1 rfl) ?_
  refine lv_dup_x1 hx hb dJx35411_next_0502b_60 rfl rfl ?_
  refine va_put (D := (dC, dI)) (ci := 1) (v := .int 2) (ty := .int) (C := RJx35411) (T := TJx35411) (N := 4) hx hb hts in_Jx35411 tyJx35411 tyJx35411_ok nmJx35411 hown hK hP hD (va_Sre hS) 0 rfl rfl 1 (by decide) (hts _ q_249) (fun _ h9 => h9) rfl (by decide +kernel) rfl rfl (Nat.le_of_ble_eq_true rfl) dJx35411_next_0502b_61 (fun H9 _ hP hD hS' => ?_)
  have hG : s.heap.size + 0 ≤ H9.size := Nat.le_trans hG hS'.1
  have hS := va_Str hS hS'
  have hP : va_P (dC, dI) xCl [(h0, ce187 h1), (h1, ce167 h2), (h2, ce146 kc0 (z.2.2.1 128) (z.2.2.1 129) (z.2.2.1 130) (z.2.2.1 131))] H9 := hP
  have hD := vd_as hP hD rfl
  refine va_aldq hx hb hK hP 2 0 rfl rfl (i := 2) (by unfold vp_in; decide) dJx35411_next_0502b_64 ?_
  refine W.eq (g2 := F0 m 65 ls [.ref (z.2.2.1 130)]) rfl ?_
  exact W.aret (v := .ref (z.2.2.1 130)) hx hb hr (by first | exact Or.inl ⟨_, rfl⟩ | exact Or.inr ⟨_, rfl⟩) (Or.inr ⟨_, rfl⟩) (fun t9 ht9 hW9 => ⟨⟨(), (z.2.2.1 130), rfl, trivial, ⟨rfl, ⟨pq_mk2 hP hD hK [0, 1, 2] [0] rfl rfl rfl ht9 hW9, by rw [ht9]; exact Nat.le_trans (Nat.add_le_add_left (Nat.le_of_ble_eq_true rfl) _) hG⟩⟩⟩, hS.F ht9⟩) hS.2.2 dJx35411_next_0502b_65

set_option maxHeartbeats 4000000 in
set_option maxRecDepth 100000 in
theorem k348_hasNext (l : Launch) (hl9 : l.stackTraces = false) (dC : Nat → ClassId) (dI : Nat → Nat → Nat) (z : XZ) (h0 h1 : Nat) (o0 : Nat) (sz : Nat) : Met l yJx35411_hasNext_aae02 (.code yJx35411_hasNext_aae02 cJx35411_hasNext_aae02 1 (some .boolean) :: wsL_law) ({ frames := 0, cells := 0, slots := 0, locals := 0 }) (va_Pc [.ref h0] (PC (dC, dI) [(h0, ce187 h1), (h1, ce167 o0)] [] sz z)) (va_Qi (fun (r : Int32) (_ : Unit) => r = 1) (fun (_ : Unit) (t : State) => PG (dC, dI) [(h0, ce187 h1), (h1, ce167 o0)] [] (va_A [(h0, ce187 h1), (h1, ce167 o0)] sz) sz 0 t) (va_A [(h0, ce187 h1), (h1, ce167 o0)] sz)) 0 0 (va_A [(h0, ce187 h1), (h1, ce167 o0)] sz) := by
  refine Met.ofW (cc := cJx35411_hasNext_aae02) (maxL := 1) (ret := (some .boolean)) (by decide) rfl ?_
  intro p e s m args below meth c s₁ B hml hv
  obtain ⟨rfl, hsz, hP, hK, hD0, hX, hT⟩ := hv
  have hx := B.exec
  have hb := B.bytes
  have hr := B.returns
  have hts0 := atoms_spec (ws := .code yJx35411_hasNext_aae02 cJx35411_hasNext_aae02 1 (some .boolean) :: wsL_law) B.pre
  have hts := xTail hts0
  have hown : s.vm.findClass RJx35411 = some m.cls := xown B.named rfl
  have hlocks := B.notSynchronized
  subst hsz
  have hD := hD0.self (sz := s.heap.size)
  generalize hAe : va_A [(h0, ce187 h1), (h1, ce167 o0)] s.heap.size = A at hD hX ⊢
  have hA : ∀ q : Nat, s.heap.size ≤ q → A q := fun q h => by rw [← hAe]; exact Or.inr h
  have hS : va_S A s.heap s.heap [] := va_S.rf
  have hG : s.heap.size + 0 ≤ s.heap.size := Nat.le_refl _
  have hl := lv_entry ([.ref h0]) (n := 1) (Nat.le_of_ble_eq_true rfl)
  rw [lg_entry_eq]
  generalize (lg_sl ([.ref h0]) ++ List.replicate (1 - (lg_sl ([.ref h0])).length) Slot.unset).toArray = ls at hl ⊢
  have hl : lv_has ls 1 [(0, .ref h0)] := hl
  refine lv_aload_n hx hb dJx35411_hasNext_aae02_0 rfl (lv_at hl 0 rfl) ?_
  refine va_get (D := (dC, dI)) (ci := 1) (v := .int 3) (C := RJx35411) (T := TJx35411) (N := 4) hx hb hts in_Jx35411 hown hK hP 0 rfl rfl 0 (by decide) (hts _ q_259) (fun _ h9 => h9) rfl dJx35411_hasNext_aae02_1 ?_
  refine lv_aload_n hx hb dJx35411_hasNext_aae02_4 rfl (lv_at hl 0 rfl) ?_
  refine va_get (D := (dC, dI)) (ci := 1) (v := .ref h1) (C := RJx35411) (T := TJx35411) (N := 4) hx hb hts in_Jx35411 hown hK hP 0 rfl rfl 3 (by decide) (hts _ q_247) (fun _ h9 => h9) rfl dJx35411_hasNext_aae02_5 ?_
  refine va_getN (D := (dC, dI)) (ci := 0) (v := .int 4) (C := RJx4a65c) (T := TJx4a65c) (N := 3) hx hb hts in_Jx4a65c hown hK hP 1 rfl rfl 2 (by decide) (va_Nw.use rfl hT.2.2.2.2.1) (fun _ h9 => h9) rfl dJx35411_hasNext_aae02_8 ?_
  refine lv_icmp_eq (tgt := 18) hx hb dJx35411_hasNext_aae02_11 (by decide) (fun cz => absurd cz (by decide)) (fun _ => ?_)
  refine lv_iconst (v := 1) hx hb dJx35411_hasNext_aae02_14 (by decide) ?_
  refine lv_goto (tgt := 19) hx hb dJx35411_hasNext_aae02_15 (by decide) ?_
  exact W.zret (v := 1) (ty := .boolean) hx hb hr rfl (fun t9 ht9 hW9 => ⟨⟨1, (), rfl, rfl, ⟨pq_mk2 hP hD hK [0, 1] [] rfl rfl rfl ht9 hW9, by rw [ht9]; exact Nat.le_trans (Nat.add_le_add_left (Nat.le_of_ble_eq_true rfl) _) hG⟩⟩, hS.F ht9⟩) hS.2.2 dJx35411_hasNext_aae02_19

set_option maxHeartbeats 4000000 in
set_option maxRecDepth 100000 in
theorem k349_checkForComodification (l : Launch) (hl9 : l.stackTraces = false) (dC : Nat → ClassId) (dI : Nat → Nat → Nat) (z : XZ) (h0 h1 : Nat) (o0 : Nat) (sz : Nat) : Met l yJx35411_checkForComodification_da8c8 (.code yJx35411_checkForComodification_da8c8 cJx35411_checkForComodification_da8c8 1 none :: wsL_law) ({ frames := 0, cells := 0, slots := 0, locals := 0 }) (va_Pc [.ref h0] (PC (dC, dI) [(h0, ce187 h1), (h1, ce167 o0)] [] sz z)) (va_Qv (fun (_ : Unit) => True) (fun (_ : Unit) (t : State) => PG (dC, dI) [(h0, ce187 h1), (h1, ce167 o0)] [] (va_A [(h0, ce187 h1), (h1, ce167 o0)] sz) sz 0 t) (va_A [(h0, ce187 h1), (h1, ce167 o0)] sz)) 0 0 (va_A [(h0, ce187 h1), (h1, ce167 o0)] sz) := by
  refine Met.ofW (cc := cJx35411_checkForComodification_da8c8) (maxL := 1) (ret := none) (by decide) rfl ?_
  intro p e s m args below meth c s₁ B hml hv
  obtain ⟨rfl, hsz, hP, hK, hD0, hX, hT⟩ := hv
  have hx := B.exec
  have hb := B.bytes
  have hr := B.returns
  have hts0 := atoms_spec (ws := .code yJx35411_checkForComodification_da8c8 cJx35411_checkForComodification_da8c8 1 none :: wsL_law) B.pre
  have hts := xTail hts0
  have hown : s.vm.findClass RJx35411 = some m.cls := xown B.named rfl
  have hlocks := B.notSynchronized
  subst hsz
  have hD := hD0.self (sz := s.heap.size)
  generalize hAe : va_A [(h0, ce187 h1), (h1, ce167 o0)] s.heap.size = A at hD hX ⊢
  have hA : ∀ q : Nat, s.heap.size ≤ q → A q := fun q h => by rw [← hAe]; exact Or.inr h
  have hS : va_S A s.heap s.heap [] := va_S.rf
  have hG : s.heap.size + 0 ≤ s.heap.size := Nat.le_refl _
  have hl := lv_entry ([.ref h0]) (n := 1) (Nat.le_of_ble_eq_true rfl)
  rw [lg_entry_eq]
  generalize (lg_sl ([.ref h0]) ++ List.replicate (1 - (lg_sl ([.ref h0])).length) Slot.unset).toArray = ls at hl ⊢
  have hl : lv_has ls 1 [(0, .ref h0)] := hl
  refine lv_aload_n hx hb dJx35411_checkForComodification_da8c8_0 rfl (lv_at hl 0 rfl) ?_
  refine va_get (D := (dC, dI)) (ci := 1) (v := .ref h1) (C := RJx35411) (T := TJx35411) (N := 4) hx hb hts in_Jx35411 hown hK hP 0 rfl rfl 3 (by decide) (hts _ q_247) (fun _ h9 => h9) rfl dJx35411_checkForComodification_da8c8_1 ?_
  refine va_get (D := (dC, dI)) (ci := 0) (v := .int 14) (C := RJx4a65c) (T := TJx4a65c) (N := 3) hx hb hts in_Jx4a65c hown hK hP 1 rfl rfl 0 (by decide) (hts _ q_250) (u_same (hts _ q_107)) rfl dJx35411_checkForComodification_da8c8_4 ?_
  refine lv_aload_n hx hb dJx35411_checkForComodification_da8c8_7 rfl (lv_at hl 0 rfl) ?_
  refine va_get (D := (dC, dI)) (ci := 1) (v := .int 14) (C := RJx35411) (T := TJx35411) (N := 4) hx hb hts in_Jx35411 hown hK hP 0 rfl rfl 2 (by decide) (hts _ q_251) (fun _ h9 => h9) rfl dJx35411_checkForComodification_da8c8_8 ?_
  refine lv_icmp_eq (tgt := 22) hx hb dJx35411_checkForComodification_da8c8_11 (by decide) (fun _ => ?_) (fun cz => absurd (by decide) cz)
  exact W.vret hx hb hr (fun t9 ht9 hW9 => ⟨⟨(), rfl, trivial, ⟨pq_mk2 hP hD hK [0, 1] [] rfl rfl rfl ht9 hW9, by rw [ht9]; exact Nat.le_trans (Nat.add_le_add_left (Nat.le_of_ble_eq_true rfl) _) hG⟩⟩, hS.F ht9⟩) hS.2.2 dJx35411_checkForComodification_da8c8_22

set_option maxHeartbeats 4000000 in
set_option maxRecDepth 100000 in
theorem k350_next (l : Launch) (hl9 : l.stackTraces = false) (dC : Nat → ClassId) (dI : Nat → Nat → Nat) (z : XZ) (h0 h1 h2 : Nat) (sz : Nat) (kc0 : ClassId) : Met l yJx35411_next_0502b (.code yJx35411_next_0502b cJx35411_next_0502b 3 (some (.object "java/lang/Object")) :: wsL_law) ({ frames := 1, cells := 0, slots := 0, locals := 20 }) (va_Pc [.ref h0] (PC (dC, dI) [(h0, ce187 h1), (h1, ce167 h2), (h2, ce146 kc0 (z.2.2.1 128) (z.2.2.1 129) (z.2.2.1 130) (z.2.2.1 131))] [(kc0, .object "java/lang/Object")] sz z)) (va_Qr (fun (_ : Unit) => True) (fun (_ : Unit) (ra : Nat) (t : State) => ra = (z.2.2.1 131) ∧ PG (dC, dI) [(h0, ce189 h1), (h1, ce167 h2), (h2, ce146 kc0 (z.2.2.1 128) (z.2.2.1 129) (z.2.2.1 130) (z.2.2.1 131))] [(kc0, .object "java/lang/Object")] (va_A [(h0, ce187 h1), (h1, ce167 h2), (h2, ce146 kc0 (z.2.2.1 128) (z.2.2.1 129) (z.2.2.1 130) (z.2.2.1 131))] sz) sz 0 t) (va_A [(h0, ce187 h1), (h1, ce167 h2), (h2, ce146 kc0 (z.2.2.1 128) (z.2.2.1 129) (z.2.2.1 130) (z.2.2.1 131))] sz)) 0 0 (va_A [(h0, ce187 h1), (h1, ce167 h2), (h2, ce146 kc0 (z.2.2.1 128) (z.2.2.1 129) (z.2.2.1 130) (z.2.2.1 131))] sz) := by
  refine Met.ofW (cc := cJx35411_next_0502b) (maxL := 3) (ret := (some (.object "java/lang/Object"))) (by decide) rfl ?_
  intro p e s m args below meth c s₁ B hml hv
  obtain ⟨rfl, hsz, hP, hK, hD0, hX, hT⟩ := hv
  have hx := B.exec
  have hb := B.bytes
  have hr := B.returns
  have hts0 := atoms_spec (ws := .code yJx35411_next_0502b cJx35411_next_0502b 3 (some (.object "java/lang/Object")) :: wsL_law) B.pre
  have hts := xTail hts0
  have hown : s.vm.findClass RJx35411 = some m.cls := xown B.named rfl
  have hlocks := B.notSynchronized
  subst hsz
  have hD := hD0.self (sz := s.heap.size)
  generalize hAe : va_A [(h0, ce187 h1), (h1, ce167 h2), (h2, ce146 kc0 (z.2.2.1 128) (z.2.2.1 129) (z.2.2.1 130) (z.2.2.1 131))] s.heap.size = A at hD hX ⊢
  have hA : ∀ q : Nat, s.heap.size ≤ q → A q := fun q h => by rw [← hAe]; exact Or.inr h
  have hS : va_S A s.heap s.heap [] := va_S.rf
  have hG : s.heap.size + 0 ≤ s.heap.size := Nat.le_refl _
  have hl := lv_entry ([.ref h0]) (n := 3) (Nat.le_of_ble_eq_true rfl)
  rw [lg_entry_eq]
  generalize (lg_sl ([.ref h0]) ++ List.replicate (3 - (lg_sl ([.ref h0])).length) Slot.unset).toArray = ls at hl ⊢
  have hl : lv_has ls 3 [(0, .ref h0)] := hl
  refine lv_aload_n hx hb dJx35411_next_0502b_0 rfl (lv_at hl 0 rfl) ?_
  have hM3 := k349_checkForComodification l hl9 dC dI z h0 h1 h2 s.heap.size
  obtain ⟨hF1, hC4⟩ := pc_M hM3 hP hD hK hS hX hT hA [0, 1] [] rfl rfl rfl
  refine va_callv (va_runV (As := []) (rest := []) ⟨hx, hb, hml, hown, hts⟩ hM3 (cwV 0 hts (gV q_303 q_304 q_305 q_246 q_302) rfl rfl rfl hV_Jx35411_checkForComodification_da8c8 ⟨Nat.le_of_ble_eq_true rfl, Nat.le_of_ble_eq_true rfl⟩) ⟨pc_blind, va_recv hK hP (ci := 1) (q := (RJx35411, TJx35411, 4)) (q0 := 0) rfl rfl, fun U hU hW => ⟨rfl, hC4 U hU hW⟩⟩ rfl rfl hl.1 rfl (lv_room (Nat.le_of_ble_eq_true rfl)) dJx35411_next_0502b_1 ⟨(Nat.le_of_ble_eq_true rfl), (Nat.le_of_ble_eq_true rfl)⟩) hS (fun q9 _ h9 => hF1 q9 h9) hF1 (fun u5 t5 H5 L5 ht5 hvm5 hw5 hB5 hz5 hk5 hS => ?_)
  have hP := pq_keep hP hD [0, 1] rfl hk5 hB5.1 ht5
  have hG : s.heap.size + 0 ≤ H5.size := Nat.le_trans hG hz5
  refine lv_aload_n hx hb dJx35411_next_0502b_4 rfl (lv_at hl 0 rfl) ?_
  refine va_get (D := (dC, dI)) (ci := 1) (v := .int 3) (C := RJx35411) (T := TJx35411) (N := 4) hx hb hts in_Jx35411 hown hK hP 0 rfl rfl 0 (by decide) (hts _ q_259) (fun _ h9 => h9) rfl dJx35411_next_0502b_5 ?_
  refine lv_istore_n (lv' := [(1, .int 3), (0, .ref h0)]) hx hb dJx35411_next_0502b_8 rfl hl (by decide) rfl (fun ls hl => ?_)
  refine lv_iload_n hx hb dJx35411_next_0502b_9 rfl (lv_at hl 0 rfl) ?_
  refine lv_aload_n hx hb dJx35411_next_0502b_10 rfl (lv_at hl 1 rfl) ?_
  refine va_get (D := (dC, dI)) (ci := 1) (v := .ref h1) (C := RJx35411) (T := TJx35411) (N := 4) hx hb hts in_Jx35411 hown hK hP 0 rfl rfl 3 (by decide) (hts _ q_247) (fun _ h9 => h9) rfl dJx35411_next_0502b_11 ?_
  refine va_getN (D := (dC, dI)) (ci := 0) (v := .int 4) (C := RJx4a65c) (T := TJx4a65c) (N := 3) hx hb hts in_Jx4a65c hown hK hP 1 rfl rfl 2 (by decide) (va_Nw.use rfl hT.2.2.2.2.1) (fun _ h9 => h9) rfl dJx35411_next_0502b_14 ?_
  refine lv_icmp_lt (tgt := 28) hx hb dJx35411_next_0502b_17 (by decide) (fun _ => ?_) (fun cz => absurd (by decide) cz)
  refine lv_aload_n hx hb dJx35411_next_0502b_28 rfl (lv_at hl 1 rfl) ?_
  refine va_get (D := (dC, dI)) (ci := 1) (v := .ref h1) (C := RJx35411) (T := TJx35411) (N := 4) hx hb hts in_Jx35411 hown hK hP 0 rfl rfl 3 (by decide) (hts _ q_247) (fun _ h9 => h9) rfl dJx35411_next_0502b_29 ?_
  refine va_get (D := (dC, dI)) (ci := 0) (v := .ref h2) (C := RJx4a65c) (T := TJx4a65c) (N := 3) hx hb hts in_Jx4a65c hown hK hP 1 rfl rfl 1 (by decide) (hts _ q_306) (fun _ h9 => h9) rfl dJx35411_next_0502b_32 ?_
  refine lv_astore_n (lv' := [(2, .ref h2), (1, .int 3), (0, .ref h0)]) hx hb dJx35411_next_0502b_35 rfl hl (by decide) rfl (fun ls hl => ?_)
  refine lv_iload_n hx hb dJx35411_next_0502b_36 rfl (lv_at hl 1 rfl) ?_
  refine lv_aload_n hx hb dJx35411_next_0502b_37 rfl (lv_at hl 0 rfl) ?_
  refine va_alen hx hb hK hP 2 0 rfl rfl (v := 10) rfl dJx35411_next_0502b_38 ?_
  refine lv_icmp_lt (tgt := 50) hx hb dJx35411_next_0502b_39 (by decide) (fun _ => ?_) (fun cz => absurd (by decide) cz)
  refine lv_aload_n hx hb dJx35411_next_0502b_50 rfl (lv_at hl 2 rfl) ?_
  refine lv_iload_n hx hb dJx35411_next_0502b_51 rfl (lv_at hl 1 rfl) ?_
  refine lv_iconst (v := 1) hx hb dJx35411_next_0502b_52 (by decide) ?_
  refine lv_iadd hx hb dJx35411_next_0502b_53 ?_
  refine lv_topi (fun y7 ey7 => ?_)
  obtain rfl : y7 = 4 := ey7.trans (by decide)
  refine va_put (D := (dC, dI)) (ci := 1) (v := .int 4) (ty := .int) (C := RJx35411) (T := TJx35411) (N := 4) hx hb hts in_Jx35411 tyJx35411 tyJx35411_ok nmJx35411 hown hK hP hD (va_Sre hS) 0 rfl rfl 0 (by decide) (hts _ q_259) (fun _ h9 => h9) rfl (by decide +kernel) rfl rfl (Nat.le_of_ble_eq_true rfl) dJx35411_next_0502b_54 (fun H8 _ hP hD hS' => ?_)
  have hG : s.heap.size + 0 ≤ H8.size := Nat.le_trans hG hS'.1
  have hS := va_Str hS hS'
  have hP : va_P (dC, dI) xCl [(h0, ce188 h1), (h1, ce167 h2), (h2, ce146 kc0 (z.2.2.1 128) (z.2.2.1 129) (z.2.2.1 130) (z.2.2.1 131))] H8 := hP
  have hD := vd_as hP hD rfl
  refine lv_aload_n hx hb dJx35411_next_0502b_57 rfl (lv_at hl 0 rfl) ?_
  refine lv_aload_n hx hb dJx35411_next_0502b_58 rfl (lv_at hl 2 rfl) ?_
  refine lv_iload_n hx hb dJx35411_next_0502b_59 rfl (lv_at hl 1 rfl) ?_
  refine lv_dup_x1 hx hb dJx35411_next_0502b_60 rfl rfl ?_
  refine va_put (D := (dC, dI)) (ci := 1) (v := .int 3) (ty := .int) (C := RJx35411) (T := TJx35411) (N := 4) hx hb hts in_Jx35411 tyJx35411 tyJx35411_ok nmJx35411 hown hK hP hD (va_Sre hS) 0 rfl rfl 1 (by decide) (hts _ q_249) (fun _ h9 => h9) rfl (by decide +kernel) rfl rfl (Nat.le_of_ble_eq_true rfl) dJx35411_next_0502b_61 (fun H9 _ hP hD hS' => ?_)
  have hG : s.heap.size + 0 ≤ H9.size := Nat.le_trans hG hS'.1
  have hS := va_Str hS hS'
  have hP : va_P (dC, dI) xCl [(h0, ce189 h1), (h1, ce167 h2), (h2, ce146 kc0 (z.2.2.1 128) (z.2.2.1 129) (z.2.2.1 130) (z.2.2.1 131))] H9 := hP
  have hD := vd_as hP hD rfl
  refine va_aldq hx hb hK hP 2 0 rfl rfl (i := 3) (by unfold vp_in; decide) dJx35411_next_0502b_64 ?_
  refine W.eq (g2 := F0 m 65 ls [.ref (z.2.2.1 131)]) rfl ?_
  exact W.aret (v := .ref (z.2.2.1 131)) hx hb hr (by first | exact Or.inl ⟨_, rfl⟩ | exact Or.inr ⟨_, rfl⟩) (Or.inr ⟨_, rfl⟩) (fun t9 ht9 hW9 => ⟨⟨(), (z.2.2.1 131), rfl, trivial, ⟨rfl, ⟨pq_mk2 hP hD hK [0, 1, 2] [0] rfl rfl rfl ht9 hW9, by rw [ht9]; exact Nat.le_trans (Nat.add_le_add_left (Nat.le_of_ble_eq_true rfl) _) hG⟩⟩⟩, hS.F ht9⟩) hS.2.2 dJx35411_next_0502b_65

set_option maxHeartbeats 4000000 in
set_option maxRecDepth 100000 in
theorem k351_intValue (l : Launch) (hl9 : l.stackTraces = false) (dC : Nat → ClassId) (dI : Nat → Nat → Nat) (z : XZ) (sz : Nat) : Met l yJ6_intValue_8abf5 (.code yJ6_intValue_8abf5 cJ6_intValue_8abf5 1 (some .int) :: wsL_law) ({ frames := 0, cells := 0, slots := 0, locals := 0 }) (va_Pc [.ref (z.2.2.1 131)] (PC (dC, dI) [] [] sz z)) (va_Qi (fun (r : Int32) (_ : Unit) => r = 3) (fun (_ : Unit) (t : State) => PG (dC, dI) [] [] (va_A [] sz) sz 0 t) (va_A [] sz)) 0 0 (va_A [] sz) := by
  refine Met.ofW (cc := cJ6_intValue_8abf5) (maxL := 1) (ret := (some .int)) (by decide) rfl ?_
  intro p e s m args below meth c s₁ B hml hv
  obtain ⟨rfl, hsz, hP, hK, hD0, hX, hT⟩ := hv
  have hx := B.exec
  have hb := B.bytes
  have hr := B.returns
  have hts0 := atoms_spec (ws := .code yJ6_intValue_8abf5 cJ6_intValue_8abf5 1 (some .int) :: wsL_law) B.pre
  have hts := xTail hts0
  have hown : s.vm.findClass RJ6 = some m.cls := xown B.named rfl
  have hlocks := B.notSynchronized
  subst hsz
  have hD := hD0.self (sz := s.heap.size)
  generalize hAe : va_A [] s.heap.size = A at hD hX ⊢
  have hA : ∀ q : Nat, s.heap.size ≤ q → A q := fun q h => by rw [← hAe]; exact Or.inr h
  have hS : va_S A s.heap s.heap [] := va_S.rf
  have hG : s.heap.size + 0 ≤ s.heap.size := Nat.le_refl _
  have hl := lv_entry ([.ref (z.2.2.1 131)]) (n := 1) (Nat.le_of_ble_eq_true rfl)
  rw [lg_entry_eq]
  generalize (lg_sl ([.ref (z.2.2.1 131)]) ++ List.replicate (1 - (lg_sl ([.ref (z.2.2.1 131)])).length) Slot.unset).toArray = ls at hl ⊢
  have hl : lv_has ls 1 [(0, .ref (z.2.2.1 131))] := hl
  refine lv_aload_n hx hb dJ6_intValue_8abf5_0 rfl (lv_at hl 0 rfl) ?_
  refine va_getX (own := RJ6) (ref := "java/lang/Integer") hx hb hX.2.2.1.1.2 (i := 131) (by decide) hS hown (hts _ q_321) (fun _ h9 => h9) dJ6_intValue_8abf5_1 ?_
  refine W.eq (g2 := F0 m 4 ls [.int 3]) rfl ?_
  exact W.iret (v := 3) hx hb hr (fun t9 ht9 hW9 => ⟨⟨3, (), rfl, rfl, ⟨pq_mk2 hP hD hK [] [] rfl rfl rfl ht9 hW9, by rw [ht9]; exact Nat.le_trans (Nat.add_le_add_left (Nat.le_of_ble_eq_true rfl) _) hG⟩⟩, hS.F ht9⟩) hS.2.2 dJ6_intValue_8abf5_4

set_option maxHeartbeats 4000000 in
set_option maxRecDepth 100000 in
theorem k352_hasNext (l : Launch) (hl9 : l.stackTraces = false) (dC : Nat → ClassId) (dI : Nat → Nat → Nat) (z : XZ) (h0 h1 : Nat) (o0 : Nat) (sz : Nat) : Met l yJx35411_hasNext_aae02 (.code yJx35411_hasNext_aae02 cJx35411_hasNext_aae02 1 (some .boolean) :: wsL_law) ({ frames := 0, cells := 0, slots := 0, locals := 0 }) (va_Pc [.ref h0] (PC (dC, dI) [(h0, ce189 h1), (h1, ce167 o0)] [] sz z)) (va_Qi (fun (r : Int32) (_ : Unit) => r = 0) (fun (_ : Unit) (t : State) => PG (dC, dI) [(h0, ce189 h1), (h1, ce167 o0)] [] (va_A [(h0, ce189 h1), (h1, ce167 o0)] sz) sz 0 t) (va_A [(h0, ce189 h1), (h1, ce167 o0)] sz)) 0 0 (va_A [(h0, ce189 h1), (h1, ce167 o0)] sz) := by
  refine Met.ofW (cc := cJx35411_hasNext_aae02) (maxL := 1) (ret := (some .boolean)) (by decide) rfl ?_
  intro p e s m args below meth c s₁ B hml hv
  obtain ⟨rfl, hsz, hP, hK, hD0, hX, hT⟩ := hv
  have hx := B.exec
  have hb := B.bytes
  have hr := B.returns
  have hts0 := atoms_spec (ws := .code yJx35411_hasNext_aae02 cJx35411_hasNext_aae02 1 (some .boolean) :: wsL_law) B.pre
  have hts := xTail hts0
  have hown : s.vm.findClass RJx35411 = some m.cls := xown B.named rfl
  have hlocks := B.notSynchronized
  subst hsz
  have hD := hD0.self (sz := s.heap.size)
  generalize hAe : va_A [(h0, ce189 h1), (h1, ce167 o0)] s.heap.size = A at hD hX ⊢
  have hA : ∀ q : Nat, s.heap.size ≤ q → A q := fun q h => by rw [← hAe]; exact Or.inr h
  have hS : va_S A s.heap s.heap [] := va_S.rf
  have hG : s.heap.size + 0 ≤ s.heap.size := Nat.le_refl _
  have hl := lv_entry ([.ref h0]) (n := 1) (Nat.le_of_ble_eq_true rfl)
  rw [lg_entry_eq]
  generalize (lg_sl ([.ref h0]) ++ List.replicate (1 - (lg_sl ([.ref h0])).length) Slot.unset).toArray = ls at hl ⊢
  have hl : lv_has ls 1 [(0, .ref h0)] := hl
  refine lv_aload_n hx hb dJx35411_hasNext_aae02_0 rfl (lv_at hl 0 rfl) ?_
  refine va_get (D := (dC, dI)) (ci := 1) (v := .int 4) (C := RJx35411) (T := TJx35411) (N := 4) hx hb hts in_Jx35411 hown hK hP 0 rfl rfl 0 (by decide) (hts _ q_259) (fun _ h9 => h9) rfl dJx35411_hasNext_aae02_1 ?_
  refine lv_aload_n hx hb dJx35411_hasNext_aae02_4 rfl (lv_at hl 0 rfl) ?_
  refine va_get (D := (dC, dI)) (ci := 1) (v := .ref h1) (C := RJx35411) (T := TJx35411) (N := 4) hx hb hts in_Jx35411 hown hK hP 0 rfl rfl 3 (by decide) (hts _ q_247) (fun _ h9 => h9) rfl dJx35411_hasNext_aae02_5 ?_
  refine va_getN (D := (dC, dI)) (ci := 0) (v := .int 4) (C := RJx4a65c) (T := TJx4a65c) (N := 3) hx hb hts in_Jx4a65c hown hK hP 1 rfl rfl 2 (by decide) (va_Nw.use rfl hT.2.2.2.2.1) (fun _ h9 => h9) rfl dJx35411_hasNext_aae02_8 ?_
  refine lv_icmp_eq (tgt := 18) hx hb dJx35411_hasNext_aae02_11 (by decide) (fun _ => ?_) (fun cz => absurd (by decide) cz)
  refine lv_iconst (v := 0) hx hb dJx35411_hasNext_aae02_18 (by decide) ?_
  exact W.zret (v := 0) (ty := .boolean) hx hb hr rfl (fun t9 ht9 hW9 => ⟨⟨0, (), rfl, rfl, ⟨pq_mk2 hP hD hK [0, 1] [] rfl rfl rfl ht9 hW9, by rw [ht9]; exact Nat.le_trans (Nat.add_le_add_left (Nat.le_of_ble_eq_true rfl) _) hG⟩⟩, hS.F ht9⟩) hS.2.2 dJx35411_hasNext_aae02_19
