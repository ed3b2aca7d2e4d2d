set_option maxHeartbeats 4000000 in
set_option maxRecDepth 100000 in
theorem k517_add (l : Launch) (hl9 : l.stackTraces = false) (dC : Nat → ClassId) (dI : Nat → Nat → Nat) (z : XZ) (h0 h1 h2 : Nat) (o0 o1 o2 : Nat) (sz : Nat) (kc0 : ClassId) : Met l yJx4a65c_add_72be8 (.code yJx4a65c_add_72be8 cJx4a65c_add_72be8 4 none :: wsL_law) ({ frames := 0, cells := 0, slots := 0, locals := 0 }) (va_Pc [.ref h0, .ref h1, .ref h2, .int 2] (PC (dC, dI) [(h0, ce276 h2), (h1, ce115 (z.2.1 0) o0 h1), (h2, ce275 kc0 o1 o2)] [(kc0, .object "java/lang/Object")] sz z)) (va_Qv (fun (_ : Unit) => True) (fun (_ : Unit) (t : State) => PG (dC, dI) [(h0, ce278 h2), (h1, ce115 (z.2.1 0) o0 h1), (h2, ce279 kc0 o1 o2 h1)] [(kc0, .object "java/lang/Object")] (va_A [(h0, ce276 h2), (h1, ce115 (z.2.1 0) o0 h1), (h2, ce275 kc0 o1 o2)] sz) sz 0 t) (va_A [(h0, ce276 h2), (h1, ce115 (z.2.1 0) o0 h1), (h2, ce275 kc0 o1 o2)] sz)) 0 0 (va_A [(h0, ce276 h2), (h1, ce115 (z.2.1 0) o0 h1), (h2, ce275 kc0 o1 o2)] sz) := by
  refine Met.ofW (cc := cJx4a65c_add_72be8) (maxL := 4) (ret := none) (by decide) rfl ?_
  intro p e s m args below meth c s₁ B hml hv
  obtain ⟨rfl, hsz, hP, hK, hD0, hX, hT⟩ := hv
  have hx := B.exec
  have hb := B.bytes
  have hr := B.returns
  have hts0 := atoms_spec (ws := .code yJx4a65c_add_72be8 cJx4a65c_add_72be8 4 none :: wsL_law) B.pre
  have hts := xTail hts0
  have hown : s.vm.findClass RJx4a65c = some m.cls := xown B.named rfl
  have hlocks := B.notSynchronized
  subst hsz
  have hD := hD0.self (sz := s.heap.size)
  generalize hAe : va_A [(h0, ce276 h2), (h1, ce115 (z.2.1 0) o0 h1), (h2, ce275 kc0 o1 o2)] s.heap.size = A at hD hX ⊢
  have hA : ∀ q : Nat, s.heap.size ≤ q → A q := fun q h => by rw [← hAe]; exact Or.inr h
  have hS : va_S A s.heap s.heap [] := va_S.rf
  have hG : s.heap.size + 0 ≤ s.heap.size := Nat.le_refl _
  have hl := lv_entry ([.ref h0, .ref h1, .ref h2, .int 2]) (n := 4) (Nat.le_of_ble_eq_true rfl)
  rw [lg_entry_eq]
  generalize (lg_sl ([.ref h0, .ref h1, .ref h2, .int 2]) ++ List.replicate (4 - (lg_sl ([.ref h0, .ref h1, .ref h2, .int 2])).length) Slot.unset).toArray = ls at hl ⊢
  have hl : lv_has ls 4 [(0, .ref h0), (1, .ref h1), (2, .ref h2), (3, .int 2)] := hl
  refine lv_iload_n hx hb dJx4a65c_add_72be8_0 rfl (lv_at hl 3 rfl) ?_
  refine lv_aload_n hx hb dJx4a65c_add_72be8_1 rfl (lv_at hl 2 rfl) ?_
  refine va_alen hx hb hK hP 2 0 rfl rfl (v := 10) rfl dJx4a65c_add_72be8_2 ?_
  refine lv_icmp_ne (tgt := 11) hx hb dJx4a65c_add_72be8_3 (by decide) (fun _ => ?_) (fun cz => absurd cz (by decide))
  refine lv_aload_n hx hb dJx4a65c_add_72be8_11 rfl (lv_at hl 2 rfl) ?_
  refine lv_iload_n hx hb dJx4a65c_add_72be8_12 rfl (lv_at hl 3 rfl) ?_
  refine lv_aload_n hx hb dJx4a65c_add_72be8_13 rfl (lv_at hl 1 rfl) ?_
  refine vb_astq (E := "java/lang/Object") (C := RX2) hx hb hK hP hD (va_Sre hS) 2 0 rfl rfl (va_recv hK hP (ci := 3) (q := (RX2, TX2, 19)) (q0 := 1) rfl rfl) (vb_asgC (hT.2.1.1 (RX2, "java/lang/Object") (by decide))) (i := 2) (by unfold vp_in; decide) dJx4a65c_add_72be8_14 (fun H1 _ hP hD hS' => ?_)
  have hG : s.heap.size + 0 ≤ H1.size := Nat.le_trans hG hS'.1
  have hS := va_Str hS hS'
  have hP : va_P (dC, dI) xCl [(h0, ce276 h2), (h1, ce115 (z.2.1 0) o0 h1), (h2, ce277 kc0 o1 o2 h1)] H1 := hP
  have hD := vd_as hP hD rfl
  refine lv_aload_n hx hb dJx4a65c_add_72be8_15 rfl (lv_at hl 0 rfl) ?_
  refine lv_iload_n hx hb dJx4a65c_add_72be8_16 rfl (lv_at hl 3 rfl) ?_
  refine lv_iconst (v := 1) hx hb dJx4a65c_add_72be8_17 (by decide) ?_
  refine lv_iadd hx hb dJx4a65c_add_72be8_18 ?_
  refine lv_topi (fun y2 ey2 => ?_)
  obtain rfl : y2 = 3 := ey2.trans (by decide)
  refine va_put (D := (dC, dI)) (ci := 0) (v := .int 3) (ty := .int) (C := RJx4a65c) (T := TJx4a65c) (N := 3) hx hb hts in_Jx4a65c tyJx4a65c tyJx4a65c_ok nmJx4a65c hown hK hP hD (va_Sre hS) 0 rfl rfl 2 (by decide) (hts _ q_74) (fun _ h9 => h9) rfl (by decide +kernel) rfl rfl (Nat.le_of_ble_eq_true rfl) dJx4a65c_add_72be8_19 (fun H3 _ hP hD hS' => ?_)
  have hG : s.heap.size + 0 ≤ H3.size := Nat.le_trans hG hS'.1
  have hS := va_Str hS hS'
  have hP : va_P (dC, dI) xCl [(h0, ce278 h2), (h1, ce115 (z.2.1 0) o0 h1), (h2, ce277 kc0 o1 o2 h1)] H3 := hP
  have hD := vd_as hP hD rfl
  have ehu4 : (va_up (va_up (va_up (va_up (va_up (va_up (fun _ => none) 0 (some o1)) 1 (some o2)) 2 none) 3 none) 4 none) 2 (some h1)) = (va_up (va_up (va_up (va_up (va_up (fun _ => none) 0 (some o1)) 1 (some o2)) 2 (some h1)) 3 none) 4 none) := by funext j; by_cases g0 : j = 0; (subst g0; rfl); by_cases g1 : j = 1; (subst g1; rfl); by_cases g2 : j = 2; (subst g2; rfl); by_cases g3 : j = 3; (subst g3; rfl); by_cases g4 : j = 4; (subst g4; rfl); simp only [va_up, g0, g1, g2, g3, g4, if_false]
  have hu4 : (ce277 kc0 o1 o2 h1 : va_E) = ce279 kc0 o1 o2 h1 := (show (.inl (kc0, 10, .inr (.inr (.inr (.inr (va_up (va_up (va_up (va_up (va_up (va_up (fun _ => none) 0 (some o1)) 1 (some o2)) 2 none) 3 none) 4 none) 2 (some h1)))))) : va_E) = .inl (kc0, 10, .inr (.inr (.inr (.inr (va_up (va_up (va_up (va_up (va_up (fun _ => none) 0 (some o1)) 1 (some o2)) 2 (some h1)) 3 none) 4 none))))) by rw [ehu4])
  rw [hu4] at hP hD
  have hP : va_P (dC, dI) xCl [(h0, ce278 h2), (h1, ce115 (z.2.1 0) o0 h1), (h2, ce279 kc0 o1 o2 h1)] H3 := hP
  have hD := vd_as hP hD rfl
  exact W.vret hx hb hr (fun t9 ht9 hW9 => ⟨⟨(), rfl, trivial, ⟨pq_mk2 hP hD hK [0, 1, 2] [0] rfl rfl rfl ht9 hW9, by rw [ht9]; exact Nat.le_trans (Nat.add_le_add_left (Nat.le_of_ble_eq_true rfl) _) hG⟩⟩, hS.F ht9⟩) hS.2.2 dJx4a65c_add_72be8_22

set_option maxHeartbeats 4000000 in
set_option maxRecDepth 100000 in
theorem k518_add (l : Launch) (hl9 : l.stackTraces = false) (dC : Nat → ClassId) (dI : Nat → Nat → Nat) (z : XZ) (h0 h1 h2 : Nat) (o0 o1 o2 : Nat) (sz : Nat) (kc0 : ClassId) : Met l yJx4a65c_add_9ea2d (.code yJx4a65c_add_9ea2d cJx4a65c_add_9ea2d 2 (some .boolean) :: wsL_law) ({ frames := 1, cells := 0, slots := 0, locals := 23 }) (va_Pc [.ref h0, .ref h1] (PC (dC, dI) [(h0, ce274 h2), (h1, ce115 (z.2.1 0) o0 h1), (h2, ce275 kc0 o1 o2)] [(kc0, .object "java/lang/Object")] sz z)) (va_Qi (fun (r : Int32) (_ : Unit) => r = 1) (fun (_ : Unit) (t : State) => PG (dC, dI) [(h0, ce278 h2), (h1, ce115 (z.2.1 0) o0 h1), (h2, ce279 kc0 o1 o2 h1)] [(kc0, .object "java/lang/Object")] (va_A [(h0, ce274 h2), (h1, ce115 (z.2.1 0) o0 h1), (h2, ce275 kc0 o1 o2)] sz) sz 0 t) (va_A [(h0, ce274 h2), (h1, ce115 (z.2.1 0) o0 h1), (h2, ce275 kc0 o1 o2)] sz)) 0 0 (va_A [(h0, ce274 h2), (h1, ce115 (z.2.1 0) o0 h1), (h2, ce275 kc0 o1 o2)] sz) := by
  refine Met.ofW (cc := cJx4a65c_add_9ea2d) (maxL := 2) (ret := (some .boolean)) (by decide) rfl ?_
  intro p e s m args below meth c s₁ B hml hv
  obtain ⟨rfl, hsz, hP, hK, hD0, hX, hT⟩ := hv
  have hx := B.exec
  have hb := B.bytes
  have hr := B.returns
  have hts0 := atoms_spec (ws := .code yJx4a65c_add_9ea2d cJx4a65c_add_9ea2d 2 (some .boolean) :: wsL_law) B.pre
  have hts := xTail hts0
  have hown : s.vm.findClass RJx4a65c = some m.cls := xown B.named rfl
  have hlocks := B.notSynchronized
  subst hsz
  have hD := hD0.self (sz := s.heap.size)
  generalize hAe : va_A [(h0, ce274 h2), (h1, ce115 (z.2.1 0) o0 h1), (h2, ce275 kc0 o1 o2)] s.heap.size = A at hD hX ⊢
  have hA : ∀ q : Nat, s.heap.size ≤ q → A q := fun q h => by rw [← hAe]; exact Or.inr h
  have hS : va_S A s.heap s.heap [] := va_S.rf
  have hG : s.heap.size + 0 ≤ s.heap.size := Nat.le_refl _
  have hl := lv_entry ([.ref h0, .ref h1]) (n := 2) (Nat.le_of_ble_eq_true rfl)
  rw [lg_entry_eq]
  generalize (lg_sl ([.ref h0, .ref h1]) ++ List.replicate (2 - (lg_sl ([.ref h0, .ref h1])).length) Slot.unset).toArray = ls at hl ⊢
  have hl : lv_has ls 2 [(0, .ref h0), (1, .ref h1)] := hl
  refine lv_aload_n hx hb dJx4a65c_add_9ea2d_0 rfl (lv_at hl 0 rfl) ?_
  refine lv_dup hx hb dJx4a65c_add_9ea2d_1 rfl ?_
  refine va_get (D := (dC, dI)) (ci := 0) (v := .int 23) (C := RJx4a65c) (T := TJx4a65c) (N := 3) hx hb hts in_Jx4a65c hown hK hP 0 rfl rfl 0 (by decide) (hts _ q_108) (u_same (hts _ q_107)) rfl dJx4a65c_add_9ea2d_2 ?_
  refine lv_iconst (v := 1) hx hb dJx4a65c_add_9ea2d_5 (by decide) ?_
  refine lv_iadd hx hb dJx4a65c_add_9ea2d_6 ?_
  refine lv_topi (fun y1 ey1 => ?_)
  obtain rfl : y1 = 24 := ey1.trans (by decide)
  refine va_put (D := (dC, dI)) (ci := 0) (v := .int 24) (ty := .int) (C := RJx4a65c) (T := TJx4a65c) (N := 3) hx hb hts in_Jx4a65c tyJx4a65c tyJx4a65c_ok nmJx4a65c hown hK hP hD (va_Sre hS) 0 rfl rfl 0 (by decide) (hts _ q_108) (u_same (hts _ q_107)) rfl (by decide +kernel) rfl rfl (Nat.le_of_ble_eq_true rfl) dJx4a65c_add_9ea2d_7 (fun H2 _ hP hD hS' => ?_)
  have hG : s.heap.size + 0 ≤ H2.size := Nat.le_trans hG hS'.1
  have hS := va_Str hS hS'
  have hP : va_P (dC, dI) xCl [(h0, ce276 h2), (h1, ce115 (z.2.1 0) o0 h1), (h2, ce275 kc0 o1 o2)] H2 := hP
  have hD := vd_as hP hD rfl
  refine lv_aload_n hx hb dJx4a65c_add_9ea2d_10 rfl (lv_at hl 0 rfl) ?_
  refine lv_aload_n hx hb dJx4a65c_add_9ea2d_11 rfl (lv_at hl 1 rfl) ?_
  refine lv_aload_n hx hb dJx4a65c_add_9ea2d_12 rfl (lv_at hl 0 rfl) ?_
  refine va_get (D := (dC, dI)) (ci := 0) (v := .ref h2) (C := RJx4a65c) (T := TJx4a65c) (N := 3) hx hb hts in_Jx4a65c hown hK hP 0 rfl rfl 1 (by decide) (hts _ q_24) (fun _ h9 => h9) rfl dJx4a65c_add_9ea2d_13 ?_
  refine lv_aload_n hx hb dJx4a65c_add_9ea2d_16 rfl (lv_at hl 0 rfl) ?_
  refine va_get (D := (dC, dI)) (ci := 0) (v := .int 2) (C := RJx4a65c) (T := TJx4a65c) (N := 3) hx hb hts in_Jx4a65c hown hK hP 0 rfl rfl 2 (by decide) (hts _ q_74) (fun _ h9 => h9) rfl dJx4a65c_add_9ea2d_17 ?_
  have hM5 := k517_add l hl9 dC dI z h0 h1 h2 o0 o1 o2 H2.size kc0
  obtain ⟨hF3, hC6⟩ := pc_M hM5 hP hD hK hS hX hT hA [0, 1, 2] [0] rfl rfl rfl
  refine va_callv (va_runV (As := [.ref h1, .ref h2, .int 2]) (rest := []) ⟨hx, hb, hml, hown, hts⟩ hM5 (cwV 3 hts (gV q_123 q_124 q_125 q_12 q_122) rfl rfl rfl hV_Jx4a65c_add_72be8 ⟨Nat.le_of_ble_eq_true rfl, Nat.le_of_ble_eq_true rfl⟩) ⟨pc_blind, va_recv hK hP (ci := 0) (q := (RJx4a65c, TJx4a65c, 3)) (q0 := 0) rfl rfl, fun U hU hW => ⟨rfl, hC6 U hU hW⟩⟩ rfl rfl hl.1 rfl (lv_room (Nat.le_of_ble_eq_true rfl)) dJx4a65c_add_9ea2d_20 ⟨(Nat.le_of_ble_eq_true rfl), (Nat.le_of_ble_eq_true rfl)⟩) hS (fun q9 _ h9 => hF3 q9 h9) hF3 (fun u7 t7 H7 L7 ht7 hvm7 hw7 hB7 hz7 hk7 hS => ?_)
  obtain ⟨hP, hD, hK⟩ := pq_jn (wz := [(h0, ce278 h2), (h1, ce115 (z.2.1 0) o0 h1), (h2, ce279 kc0 o1 o2 h1)]) (tz := [(kc0, .object "java/lang/Object")]) hP hD hK [0, 1, 2] [] rfl hk7 hF3 hB7.1 ht7 hvm7 rfl rfl
  have hG : s.heap.size + 0 ≤ H7.size := Nat.le_trans hG hz7
  refine lv_iconst (v := 1) hx hb dJx4a65c_add_9ea2d_23 (by decide) ?_
  exact W.zret (v := 1) (ty := .boolean) hx hb hr rfl (fun t9 ht9 hW9 => ⟨⟨1, (), rfl, rfl, ⟨pq_mk2 hP hD hK [0, 1, 2] [0] rfl rfl rfl ht9 hW9, by rw [ht9]; exact Nat.le_trans (Nat.add_le_add_left (Nat.le_of_ble_eq_true rfl) _) hG⟩⟩, hS.F ht9⟩) hS.2.2 dJx4a65c_add_9ea2d_24

set_option maxHeartbeats 4000000 in
set_option maxRecDepth 100000 in
theorem k519_add (l : Launch) (hl9 : l.stackTraces = false) (dC : Nat → ClassId) (dI : Nat → Nat → Nat) (z : XZ) (h0 h1 h2 : Nat) (o0 o1 o2 o3 : Nat) (sz : Nat) (kc0 : ClassId) : Met l yJx4a65c_add_72be8 (.code yJx4a65c_add_72be8 cJx4a65c_add_72be8 4 none :: wsL_law) ({ frames := 0, cells := 0, slots := 0, locals := 0 }) (va_Pc [.ref h0, .ref h1, .ref h2, .int 3] (PC (dC, dI) [(h0, ce280 h2), (h1, ce165 (z.2.1 0) o0 h1), (h2, ce279 kc0 o1 o2 o3)] [(kc0, .object "java/lang/Object")] sz z)) (va_Qv (fun (_ : Unit) => True) (fun (_ : Unit) (t : State) => PG (dC, dI) [(h0, ce282 h2), (h1, ce165 (z.2.1 0) o0 h1), (h2, ce283 kc0 o1 o2 o3 h1)] [(kc0, .object "java/lang/Object")] (va_A [(h0, ce280 h2), (h1, ce165 (z.2.1 0) o0 h1), (h2, ce279 kc0 o1 o2 o3)] sz) sz 0 t) (va_A [(h0, ce280 h2), (h1, ce165 (z.2.1 0) o0 h1), (h2, ce279 kc0 o1 o2 o3)] sz)) 0 0 (va_A [(h0, ce280 h2), (h1, ce165 (z.2.1 0) o0 h1), (h2, ce279 kc0 o1 o2 o3)] sz) := by
  refine Met.ofW (cc := cJx4a65c_add_72be8) (maxL := 4) (ret := none) (by decide) rfl ?_
  intro p e s m args below meth c s₁ B hml hv
  obtain ⟨rfl, hsz, hP, hK, hD0, hX, hT⟩ := hv
  have hx := B.exec
  have hb := B.bytes
  have hr := B.returns
  have hts0 := atoms_spec (ws := .code yJx4a65c_add_72be8 cJx4a65c_add_72be8 4 none :: wsL_law) B.pre
  have hts := xTail hts0
  have hown : s.vm.findClass RJx4a65c = some m.cls := xown B.named rfl
  have hlocks := B.notSynchronized
  subst hsz
  have hD := hD0.self (sz := s.heap.size)
  generalize hAe : va_A [(h0, ce280 h2), (h1, ce165 (z.2.1 0) o0 h1), (h2, ce279 kc0 o1 o2 o3)] s.heap.size = A at hD hX ⊢
  have hA : ∀ q : Nat, s.heap.size ≤ q → A q := fun q h => by rw [← hAe]; exact Or.inr h
  have hS : va_S A s.heap s.heap [] := va_S.rf
  have hG : s.heap.size + 0 ≤ s.heap.size := Nat.le_refl _
  have hl := lv_entry ([.ref h0, .ref h1, .ref h2, .int 3]) (n := 4) (Nat.le_of_ble_eq_true rfl)
  rw [lg_entry_eq]
  generalize (lg_sl ([.ref h0, .ref h1, .ref h2, .int 3]) ++ List.replicate (4 - (lg_sl ([.ref h0, .ref h1, .ref h2, .int 3])).length) Slot.unset).toArray = ls at hl ⊢
  have hl : lv_has ls 4 [(0, .ref h0), (1, .ref h1), (2, .ref h2), (3, .int 3)] := hl
  refine lv_iload_n hx hb dJx4a65c_add_72be8_0 rfl (lv_at hl 3 rfl) ?_
  refine lv_aload_n hx hb dJx4a65c_add_72be8_1 rfl (lv_at hl 2 rfl) ?_
  refine va_alen hx hb hK hP 2 0 rfl rfl (v := 10) rfl dJx4a65c_add_72be8_2 ?_
  refine lv_icmp_ne (tgt := 11) hx hb dJx4a65c_add_72be8_3 (by decide) (fun _ => ?_) (fun cz => absurd cz (by decide))
  refine lv_aload_n hx hb dJx4a65c_add_72be8_11 rfl (lv_at hl 2 rfl) ?_
  refine lv_iload_n hx hb dJx4a65c_add_72be8_12 rfl (lv_at hl 3 rfl) ?_
  refine lv_aload_n hx hb dJx4a65c_add_72be8_13 rfl (lv_at hl 1 rfl) ?_
  refine vb_astq (E := "java/lang/Object") (C := RX2) hx hb hK hP hD (va_Sre hS) 2 0 rfl rfl (va_recv hK hP (ci := 3) (q := (RX2, TX2, 19)) (q0 := 1) rfl rfl) (vb_asgC (hT.2.1.1 (RX2, "java/lang/Object") (by decide))) (i := 3) (by unfold vp_in; decide) dJx4a65c_add_72be8_14 (fun H1 _ hP hD hS' => ?_)
  have hG : s.heap.size + 0 ≤ H1.size := Nat.le_trans hG hS'.1
  have hS := va_Str hS hS'
  have hP : va_P (dC, dI) xCl [(h0, ce280 h2), (h1, ce165 (z.2.1 0) o0 h1), (h2, ce281 kc0 o1 o2 o3 h1)] H1 := hP
  have hD := vd_as hP hD rfl
  refine lv_aload_n hx hb dJx4a65c_add_72be8_15 rfl (lv_at hl 0 rfl) ?_
  refine lv_iload_n hx hb dJx4a65c_add_72be8_16 rfl (lv_at hl 3 rfl) ?_
  refine lv_iconst (v := 1) hx hb dJx4a65c_add_72be8_17 (by decide) ?_
  refine lv_iadd hx hb dJx4a65c_add_72be8_18 ?_
  refine lv_topi (fun y2 ey2 => ?_)
  obtain rfl : y2 = 4 := ey2.trans (by decide)
  refine va_put (D := (dC, dI)) (ci := 0) (v := .int 4) (ty := .int) (C := RJx4a65c) (T := TJx4a65c) (N := 3) hx hb hts in_Jx4a65c tyJx4a65c tyJx4a65c_ok nmJx4a65c hown hK hP hD (va_Sre hS) 0 rfl rfl 2 (by decide) (hts _ q_74) (fun _ h9 => h9) rfl (by decide +kernel) rfl rfl (Nat.le_of_ble_eq_true rfl) dJx4a65c_add_72be8_19 (fun H3 _ hP hD hS' => ?_)
  have hG : s.heap.size + 0 ≤ H3.size := Nat.le_trans hG hS'.1
  have hS := va_Str hS hS'
  have hP : va_P (dC, dI) xCl [(h0, ce282 h2), (h1, ce165 (z.2.1 0) o0 h1), (h2, ce281 kc0 o1 o2 o3 h1)] H3 := hP
  have hD := vd_as hP hD rfl
  have ehu4 : (va_up (va_up (va_up (va_up (va_up (va_up (fun _ => none) 0 (some o1)) 1 (some o2)) 2 (some o3)) 3 none) 4 none) 3 (some h1)) = (va_up (va_up (va_up (va_up (va_up (fun _ => none) 0 (some o1)) 1 (some o2)) 2 (some o3)) 3 (some h1)) 4 none) := by funext j; by_cases g0 : j = 0; (subst g0; rfl); by_cases g1 : j = 1; (subst g1; rfl); by_cases g2 : j = 2; (subst g2; rfl); by_cases g3 : j = 3; (subst g3; rfl); by_cases g4 : j = 4; (subst g4; rfl); simp only [va_up, g0, g1, g2, g3, g4, if_false]
  have hu4 : (ce281 kc0 o1 o2 o3 h1 : va_E) = ce283 kc0 o1 o2 o3 h1 := (show (.inl (kc0, 10, .inr (.inr (.inr (.inr (va_up (va_up (va_up (va_up (va_up (va_up (fun _ => none) 0 (some o1)) 1 (some o2)) 2 (some o3)) 3 none) 4 none) 3 (some h1)))))) : va_E) = .inl (kc0, 10, .inr (.inr (.inr (.inr (va_up (va_up (va_up (va_up (va_up (fun _ => none) 0 (some o1)) 1 (some o2)) 2 (some o3)) 3 (some h1)) 4 none))))) by rw [ehu4])
  rw [hu4] at hP hD
  have hP : va_P (dC, dI) xCl [(h0, ce282 h2), (h1, ce165 (z.2.1 0) o0 h1), (h2, ce283 kc0 o1 o2 o3 h1)] H3 := hP
  have hD := vd_as hP hD rfl
  exact W.vret hx hb hr (fun t9 ht9 hW9 => ⟨⟨(), rfl, trivial, ⟨pq_mk2 hP hD hK [0, 1, 2] [0] rfl rfl rfl ht9 hW9, by rw [ht9]; exact Nat.le_trans (Nat.add_le_add_left (Nat.le_of_ble_eq_true rfl) _) hG⟩⟩, hS.F ht9⟩) hS.2.2 dJx4a65c_add_72be8_22

set_option maxHeartbeats 4000000 in
set_option maxRecDepth 100000 in
theorem k520_add (l : Launch) (hl9 : l.stackTraces = false) (dC : Nat → ClassId) (dI : Nat → Nat → Nat) (z : XZ) (h0 h1 h2 : Nat) (o0 o1 o2 o3 : Nat) (sz : Nat) (kc0 : ClassId) : Met l yJx4a65c_add_9ea2d (.code yJx4a65c_add_9ea2d cJx4a65c_add_9ea2d 2 (some .boolean) :: wsL_law) ({ frames := 1, cells := 0, slots := 0, locals := 23 }) (va_Pc [.ref h0, .ref h1] (PC (dC, dI) [(h0, ce278 h2), (h1, ce165 (z.2.1 0) o0 h1), (h2, ce279 kc0 o1 o2 o3)] [(kc0, .object "java/lang/Object")] sz z)) (va_Qi (fun (r : Int32) (_ : Unit) => r = 1) (fun (_ : Unit) (t : State) => PG (dC, dI) [(h0, ce282 h2), (h1, ce165 (z.2.1 0) o0 h1), (h2, ce283 kc0 o1 o2 o3 h1)] [(kc0, .object "java/lang/Object")] (va_A [(h0, ce278 h2), (h1, ce165 (z.2.1 0) o0 h1), (h2, ce279 kc0 o1 o2 o3)] sz) sz 0 t) (va_A [(h0, ce278 h2), (h1, ce165 (z.2.1 0) o0 h1), (h2, ce279 kc0 o1 o2 o3)] sz)) 0 0 (va_A [(h0, ce278 h2), (h1, ce165 (z.2.1 0) o0 h1), (h2, ce279 kc0 o1 o2 o3)] sz) := by
  refine Met.ofW (cc := cJx4a65c_add_9ea2d) (maxL := 2) (ret := (some .boolean)) (by decide) rfl ?_
  intro p e s m args below meth c s₁ B hml hv
  obtain ⟨rfl, hsz, hP, hK, hD0, hX, hT⟩ := hv
  have hx := B.exec
  have hb := B.bytes
  have hr := B.returns
  have hts0 := atoms_spec (ws := .code yJx4a65c_add_9ea2d cJx4a65c_add_9ea2d 2 (some .boolean) :: wsL_law) B.pre
  have hts := xTail hts0
  have hown : s.vm.findClass RJx4a65c = some m.cls := xown B.named rfl
  have hlocks := B.notSynchronized
  subst hsz
  have hD := hD0.self (sz := s.heap.size)
  generalize hAe : va_A [(h0, ce278 h2), (h1, ce165 (z.2.1 0) o0 h1), (h2, ce279 kc0 o1 o2 o3)] s.heap.size = A at hD hX ⊢
  have hA : ∀ q : Nat, s.heap.size ≤ q → A q := fun q h => by rw [← hAe]; exact Or.inr h
  have hS : va_S A s.heap s.heap [] := va_S.rf
  have hG : s.heap.size + 0 ≤ s.heap.size := Nat.le_refl _
  have hl := lv_entry ([.ref h0, .ref h1]) (n := 2) (Nat.le_of_ble_eq_true rfl)
  rw [lg_entry_eq]
  generalize (lg_sl ([.ref h0, .ref h1]) ++ List.replicate (2 - (lg_sl ([.ref h0, .ref h1])).length) Slot.unset).toArray = ls at hl ⊢
  have hl : lv_has ls 2 [(0, .ref h0), (1, .ref h1)] := hl
  refine lv_aload_n hx hb dJx4a65c_add_9ea2d_0 rfl (lv_at hl 0 rfl) ?_
  refine lv_dup hx hb dJx4a65c_add_9ea2d_1 rfl ?_
  refine va_get (D := (dC, dI)) (ci := 0) (v := .int 24) (C := RJx4a65c) (T := TJx4a65c) (N := 3) hx hb hts in_Jx4a65c hown hK hP 0 rfl rfl 0 (by decide) (hts _ q_108) (u_same (hts _ q_107)) rfl dJx4a65c_add_9ea2d_2 ?_
  refine lv_iconst (v := 1) hx hb dJx4a65c_add_9ea2d_5 (by decide) ?_
  refine lv_iadd hx hb dJx4a65c_add_9ea2d_6 ?_
  refine lv_topi (fun y1 ey1 => ?_)
  obtain rfl : y1 = 25 := ey1.trans (by decide)
  refine va_put (D := (dC, dI)) (ci := 0) (v := .int 25) (ty := .int) (C := RJx4a65c) (T := TJx4a65c) (N := 3) hx hb hts in_Jx4a65c tyJx4a65c tyJx4a65c_ok nmJx4a65c hown hK hP hD (va_Sre hS) 0 rfl rfl 0 (by decide) (hts _ q_108) (u_same (hts _ q_107)) rfl (by decide +kernel) rfl rfl (Nat.le_of_ble_eq_true rfl) dJx4a65c_add_9ea2d_7 (fun H2 _ hP hD hS' => ?_)
  have hG : s.heap.size + 0 ≤ H2.size := Nat.le_trans hG hS'.1
  have hS := va_Str hS hS'
  have hP : va_P (dC, dI) xCl [(h0, ce280 h2), (h1, ce165 (z.2.1 0) o0 h1), (h2, ce279 kc0 o1 o2 o3)] H2 := hP
  have hD := vd_as hP hD rfl
  refine lv_aload_n hx hb dJx4a65c_add_9ea2d_10 rfl (lv_at hl 0 rfl) ?_
  refine lv_aload_n hx hb dJx4a65c_add_9ea2d_11 rfl (lv_at hl 1 rfl) ?_
  refine lv_aload_n hx hb dJx4a65c_add_9ea2d_12 rfl (lv_at hl 0 rfl) ?_
  refine va_get (D := (dC, dI)) (ci := 0) (v := .ref h2) (C := RJx4a65c) (T := TJx4a65c) (N := 3) hx hb hts in_Jx4a65c hown hK hP 0 rfl rfl 1 (by decide) (hts _ q_24) (fun _ h9 => h9) rfl dJx4a65c_add_9ea2d_13 ?_
  refine lv_aload_n hx hb dJx4a65c_add_9ea2d_16 rfl (lv_at hl 0 rfl) ?_
  refine va_get (D := (dC, dI)) (ci := 0) (v := .int 3) (C := RJx4a65c) (T := TJx4a65c) (N := 3) hx hb hts in_Jx4a65c hown hK hP 0 rfl rfl 2 (by decide) (hts _ q_74) (fun _ h9 => h9) rfl dJx4a65c_add_9ea2d_17 ?_
  have hM5 := k519_add l hl9 dC dI z h0 h1 h2 o0 o1 o2 o3 H2.size kc0
  obtain ⟨hF3, hC6⟩ := pc_M hM5 hP hD hK hS hX hT hA [0, 1, 2] [0] rfl rfl rfl
  refine va_callv (va_runV (As := [.ref h1, .ref h2, .int 3]) (rest := []) ⟨hx, hb, hml, hown, hts⟩ hM5 (cwV 3 hts (gV q_123 q_124 q_125 q_12 q_122) rfl rfl rfl hV_Jx4a65c_add_72be8 ⟨Nat.le_of_ble_eq_true rfl, Nat.le_of_ble_eq_true rfl⟩) ⟨pc_blind, va_recv hK hP (ci := 0) (q := (RJx4a65c, TJx4a65c, 3)) (q0 := 0) rfl rfl, fun U hU hW => ⟨rfl, hC6 U hU hW⟩⟩ rfl rfl hl.1 rfl (lv_room (Nat.le_of_ble_eq_true rfl)) dJx4a65c_add_9ea2d_20 ⟨(Nat.le_of_ble_eq_true rfl), (Nat.le_of_ble_eq_true rfl)⟩) hS (fun q9 _ h9 => hF3 q9 h9) hF3 (fun u7 t7 H7 L7 ht7 hvm7 hw7 hB7 hz7 hk7 hS => ?_)
  obtain ⟨hP, hD, hK⟩ := pq_jn (wz := [(h0, ce282 h2), (h1, ce165 (z.2.1 0) o0 h1), (h2, ce283 kc0 o1 o2 o3 h1)]) (tz := [(kc0, .object "java/lang/Object")]) hP hD hK [0, 1, 2] [] rfl hk7 hF3 hB7.1 ht7 hvm7 rfl rfl
  have hG : s.heap.size + 0 ≤ H7.size := Nat.le_trans hG hz7
  refine lv_iconst (v := 1) hx hb dJx4a65c_add_9ea2d_23 (by decide) ?_
  exact W.zret (v := 1) (ty := .boolean) hx hb hr rfl (fun t9 ht9 hW9 => ⟨⟨1, (), rfl, rfl, ⟨pq_mk2 hP hD hK [0, 1, 2] [0] rfl rfl rfl ht9 hW9, by rw [ht9]; exact Nat.le_trans (Nat.add_le_add_left (Nat.le_of_ble_eq_true rfl) _) hG⟩⟩, hS.F ht9⟩) hS.2.2 dJx4a65c_add_9ea2d_24

set_option maxHeartbeats 4000000 in
set_option maxRecDepth 100000 in
theorem k521_add (l : Launch) (hl9 : l.stackTraces = false) (dC : Nat → ClassId) (dI : Nat → Nat → Nat) (z : XZ) (h0 h1 h2 : Nat) (o0 o1 o2 o3 o4 : Nat) (sz : Nat) (kc0 : ClassId) : Met l yJx4a65c_add_72be8 (.code yJx4a65c_add_72be8 cJx4a65c_add_72be8 4 none :: wsL_law) ({ frames := 0, cells := 0, slots := 0, locals := 0 }) (va_Pc [.ref h0, .ref h1, .ref h2, .int 4] (PC (dC, dI) [(h0, ce284 h2), (h1, ce224 (z.2.1 0) o0 h1), (h2, ce283 kc0 o1 o2 o3 o4)] [(kc0, .object "java/lang/Object")] sz z)) (va_Qv (fun (_ : Unit) => True) (fun (_ : Unit) (t : State) => PG (dC, dI) [(h0, ce286 h2), (h1, ce224 (z.2.1 0) o0 h1), (h2, ce200 kc0 o1 o2 o3 o4 h1)] [(kc0, .object "java/lang/Object")] (va_A [(h0, ce284 h2), (h1, ce224 (z.2.1 0) o0 h1), (h2, ce283 kc0 o1 o2 o3 o4)] sz) sz 0 t) (va_A [(h0, ce284 h2), (h1, ce224 (z.2.1 0) o0 h1), (h2, ce283 kc0 o1 o2 o3 o4)] sz)) 0 0 (va_A [(h0, ce284 h2), (h1, ce224 (z.2.1 0) o0 h1), (h2, ce283 kc0 o1 o2 o3 o4)] sz) := by
  refine Met.ofW (cc := cJx4a65c_add_72be8) (maxL := 4) (ret := none) (by decide) rfl ?_
  intro p e s m args below meth c s₁ B hml hv
  obtain ⟨rfl, hsz, hP, hK, hD0, hX, hT⟩ := hv
  have hx := B.exec
  have hb := B.bytes
  have hr := B.returns
  have hts0 := atoms_spec (ws := .code yJx4a65c_add_72be8 cJx4a65c_add_72be8 4 none :: wsL_law) B.pre
  have hts := xTail hts0
  have hown : s.vm.findClass RJx4a65c = some m.cls := xown B.named rfl
  have hlocks := B.notSynchronized
  subst hsz
  have hD := hD0.self (sz := s.heap.size)
  generalize hAe : va_A [(h0, ce284 h2), (h1, ce224 (z.2.1 0) o0 h1), (h2, ce283 kc0 o1 o2 o3 o4)] s.heap.size = A at hD hX ⊢
  have hA : ∀ q : Nat, s.heap.size ≤ q → A q := fun q h => by rw [← hAe]; exact Or.inr h
  have hS : va_S A s.heap s.heap [] := va_S.rf
  have hG : s.heap.size + 0 ≤ s.heap.size := Nat.le_refl _
  have hl := lv_entry ([.ref h0, .ref h1, .ref h2, .int 4]) (n := 4) (Nat.le_of_ble_eq_true rfl)
  rw [lg_entry_eq]
  generalize (lg_sl ([.ref h0, .ref h1, .ref h2, .int 4]) ++ List.replicate (4 - (lg_sl ([.ref h0, .ref h1, .ref h2, .int 4])).length) Slot.unset).toArray = ls at hl ⊢
  have hl : lv_has ls 4 [(0, .ref h0), (1, .ref h1), (2, .ref h2), (3, .int 4)] := hl
  refine lv_iload_n hx hb dJx4a65c_add_72be8_0 rfl (lv_at hl 3 rfl) ?_
  refine lv_aload_n hx hb dJx4a65c_add_72be8_1 rfl (lv_at hl 2 rfl) ?_
  refine va_alen hx hb hK hP 2 0 rfl rfl (v := 10) rfl dJx4a65c_add_72be8_2 ?_
  refine lv_icmp_ne (tgt := 11) hx hb dJx4a65c_add_72be8_3 (by decide) (fun _ => ?_) (fun cz => absurd cz (by decide))
  refine lv_aload_n hx hb dJx4a65c_add_72be8_11 rfl (lv_at hl 2 rfl) ?_
  refine lv_iload_n hx hb dJx4a65c_add_72be8_12 rfl (lv_at hl 3 rfl) ?_
  refine lv_aload_n hx hb dJx4a65c_add_72be8_13 rfl (lv_at hl 1 rfl) ?_
  refine vb_astq (E := "java/lang/Object") (C := RX2) hx hb hK hP hD (va_Sre hS) 2 0 rfl rfl (va_recv hK hP (ci := 3) (q := (RX2, TX2, 19)) (q0 := 1) rfl rfl) (vb_asgC (hT.2.1.1 (RX2, "java/lang/Object") (by decide))) (i := 4) (by unfold vp_in; decide) dJx4a65c_add_72be8_14 (fun H1 _ hP hD hS' => ?_)
  have hG : s.heap.size + 0 ≤ H1.size := Nat.le_trans hG hS'.1
  have hS := va_Str hS hS'
  have hP : va_P (dC, dI) xCl [(h0, ce284 h2), (h1, ce224 (z.2.1 0) o0 h1), (h2, ce285 kc0 o1 o2 o3 o4 h1)] H1 := hP
  have hD := vd_as hP hD rfl
  refine lv_aload_n hx hb dJx4a65c_add_72be8_15 rfl (lv_at hl 0 rfl) ?_
  refine lv_iload_n hx hb dJx4a65c_add_72be8_16 rfl (lv_at hl 3 rfl) ?_
  refine lv_iconst (v := 1) hx hb dJx4a65c_add_72be8_17 (by decide) ?_
  refine lv_iadd hx hb dJx4a65c_add_72be8_18 ?_
  refine lv_topi (fun y2 ey2 => ?_)
  obtain rfl : y2 = 5 := ey2.trans (by decide)
  refine va_put (D := (dC, dI)) (ci := 0) (v := .int 5) (ty := .int) (C := RJx4a65c) (T := TJx4a65c) (N := 3) hx hb hts in_Jx4a65c tyJx4a65c tyJx4a65c_ok nmJx4a65c hown hK hP hD (va_Sre hS) 0 rfl rfl 2 (by decide) (hts _ q_74) (fun _ h9 => h9) rfl (by decide +kernel) rfl rfl (Nat.le_of_ble_eq_true rfl) dJx4a65c_add_72be8_19 (fun H3 _ hP hD hS' => ?_)
  have hG : s.heap.size + 0 ≤ H3.size := Nat.le_trans hG hS'.1
  have hS := va_Str hS hS'
  have hP : va_P (dC, dI) xCl [(h0, ce286 h2), (h1, ce224 (z.2.1 0) o0 h1), (h2, ce285 kc0 o1 o2 o3 o4 h1)] H3 := hP
  have hD := vd_as hP hD rfl
  have ehu4 : (va_up (va_up (va_up (va_up (va_up (va_up (fun _ => none) 0 (some o1)) 1 (some o2)) 2 (some o3)) 3 (some o4)) 4 none) 4 (some h1)) = (va_up (va_up (va_up (va_up (va_up (fun _ => none) 0 (some o1)) 1 (some o2)) 2 (some o3)) 3 (some o4)) 4 (some h1)) := by funext j; by_cases g0 : j = 0; (subst g0; rfl); by_cases g1 : j = 1; (subst g1; rfl); by_cases g2 : j = 2; (subst g2; rfl); by_cases g3 : j = 3; (subst g3; rfl); by_cases g4 : j = 4; (subst g4; rfl); simp only [va_up, g0, g1, g2, g3, g4, if_false]
  have hu4 : (ce285 kc0 o1 o2 o3 o4 h1 : va_E) = ce200 kc0 o1 o2 o3 o4 h1 := (show (.inl (kc0, 10, .inr (.inr (.inr (.inr (va_up (va_up (va_up (va_up (va_up (va_up (fun _ => none) 0 (some o1)) 1 (some o2)) 2 (some o3)) 3 (some o4)) 4 none) 4 (some h1)))))) : va_E) = .inl (kc0, 10, .inr (.inr (.inr (.inr (va_up (va_up (va_up (va_up (va_up (fun _ => none) 0 (some o1)) 1 (some o2)) 2 (some o3)) 3 (some o4)) 4 (some h1)))))) by rw [ehu4])
  rw [hu4] at hP hD
  have hP : va_P (dC, dI) xCl [(h0, ce286 h2), (h1, ce224 (z.2.1 0) o0 h1), (h2, ce200 kc0 o1 o2 o3 o4 h1)] H3 := hP
  have hD := vd_as hP hD rfl
  exact W.vret hx hb hr (fun t9 ht9 hW9 => ⟨⟨(), rfl, trivial, ⟨pq_mk2 hP hD hK [0, 1, 2] [0] rfl rfl rfl ht9 hW9, by rw [ht9]; exact Nat.le_trans (Nat.add_le_add_left (Nat.le_of_ble_eq_true rfl) _) hG⟩⟩, hS.F ht9⟩) hS.2.2 dJx4a65c_add_72be8_22

set_option maxHeartbeats 4000000 in
set_option maxRecDepth 100000 in
theorem k522_add (l : Launch) (hl9 : l.stackTraces = false) (dC : Nat → ClassId) (dI : Nat → Nat → Nat) (z : XZ) (h0 h1 h2 : Nat) (o0 o1 o2 o3 o4 : Nat) (sz : Nat) (kc0 : ClassId) : Met l yJx4a65c_add_9ea2d (.code yJx4a65c_add_9ea2d cJx4a65c_add_9ea2d 2 (some .boolean) :: wsL_law) ({ frames := 1, cells := 0, slots := 0, locals := 23 }) (va_Pc [.ref h0, .ref h1] (PC (dC, dI) [(h0, ce282 h2), (h1, ce224 (z.2.1 0) o0 h1), (h2, ce283 kc0 o1 o2 o3 o4)] [(kc0, .object "java/lang/Object")] sz z)) (va_Qi (fun (r : Int32) (_ : Unit) => r = 1) (fun (_ : Unit) (t : State) => PG (dC, dI) [(h0, ce286 h2), (h1, ce224 (z.2.1 0) o0 h1), (h2, ce200 kc0 o1 o2 o3 o4 h1)] [(kc0, .object "java/lang/Object")] (va_A [(h0, ce282 h2), (h1, ce224 (z.2.1 0) o0 h1), (h2, ce283 kc0 o1 o2 o3 o4)] sz) sz 0 t) (va_A [(h0, ce282 h2), (h1, ce224 (z.2.1 0) o0 h1), (h2, ce283 kc0 o1 o2 o3 o4)] sz)) 0 0 (va_A [(h0, ce282 h2), (h1, ce224 (z.2.1 0) o0 h1), (h2, ce283 kc0 o1 o2 o3 o4)] sz) := by
  refine Met.ofW (cc := cJx4a65c_add_9ea2d) (maxL := 2) (ret := (some .boolean)) (by decide) rfl ?_
  intro p e s m args below meth c s₁ B hml hv
  obtain ⟨rfl, hsz, hP, hK, hD0, hX, hT⟩ := hv
  have hx := B.exec
  have hb := B.bytes
  have hr := B.returns
  have hts0 := atoms_spec (ws := .code yJx4a65c_add_9ea2d cJx4a65c_add_9ea2d 2 (some .boolean) :: wsL_law) B.pre
  have hts := xTail hts0
  have hown : s.vm.findClass RJx4a65c = some m.cls := xown B.named rfl
  have hlocks := B.notSynchronized
  subst hsz
  have hD := hD0.self (sz := s.heap.size)
  generalize hAe : va_A [(h0, ce282 h2), (h1, ce224 (z.2.1 0) o0 h1), (h2, ce283 kc0 o1 o2 o3 o4)] s.heap.size = A at hD hX ⊢
  have hA : ∀ q : Nat, s.heap.size ≤ q → A q := fun q h => by rw [← hAe]; exact Or.inr h
  have hS : va_S A s.heap s.heap [] := va_S.rf
  have hG : s.heap.size + 0 ≤ s.heap.size := Nat.le_refl _
  have hl := lv_entry ([.ref h0, .ref h1]) (n := 2) (Nat.le_of_ble_eq_true rfl)
  rw [lg_entry_eq]
  generalize (lg_sl ([.ref h0, .ref h1]) ++ List.replicate (2 - (lg_sl ([.ref h0, .ref h1])).length) Slot.unset).toArray = ls at hl ⊢
  have hl : lv_has ls 2 [(0, .ref h0), (1, .ref h1)] := hl
  refine lv_aload_n hx hb dJx4a65c_add_9ea2d_0 rfl (lv_at hl 0 rfl) ?_
  refine lv_dup hx hb dJx4a65c_add_9ea2d_1 rfl ?_
  refine va_get (D := (dC, dI)) (ci := 0) (v := .int 25) (C := RJx4a65c) (T := TJx4a65c) (N := 3) hx hb hts in_Jx4a65c hown hK hP 0 rfl rfl 0 (by decide) (hts _ q_108) (u_same (hts _ q_107)) rfl dJx4a65c_add_9ea2d_2 ?_
  refine lv_iconst (v := 1) hx hb dJx4a65c_add_9ea2d_5 (by decide) ?_
  refine lv_iadd hx hb dJx4a65c_add_9ea2d_6 ?_
  refine lv_topi (fun y1 ey1 => ?_)
  obtain rfl : y1 = 26 := ey1.trans (by decide)
  refine va_put (D := (dC, dI)) (ci := 0) (v := .int 26) (ty := .int) (C := RJx4a65c) (T := TJx4a65c) (N := 3) hx hb hts in_Jx4a65c tyJx4a65c tyJx4a65c_ok nmJx4a65c hown hK hP hD (va_Sre hS) 0 rfl rfl 0 (by decide) (hts _ q_108) (u_same (hts _ q_107)) rfl (by decide +kernel) rfl rfl (Nat.le_of_ble_eq_true rfl) dJx4a65c_add_9ea2d_7 (fun H2 _ hP hD hS' => ?_)
  have hG : s.heap.size + 0 ≤ H2.size := Nat.le_trans hG hS'.1
  have hS := va_Str hS hS'
  have hP : va_P (dC, dI) xCl [(h0, ce284 h2), (h1, ce224 (z.2.1 0) o0 h1), (h2, ce283 kc0 o1 o2 o3 o4)] H2 := hP
  have hD := vd_as hP hD rfl
  refine lv_aload_n hx hb dJx4a65c_add_9ea2d_10 rfl (lv_at hl 0 rfl) ?_
  refine lv_aload_n hx hb dJx4a65c_add_9ea2d_11 rfl (lv_at hl 1 rfl) ?_
  refine lv_aload_n hx hb dJx4a65c_add_9ea2d_12 rfl (lv_at hl 0 rfl) ?_
  refine va_get (D := (dC, dI)) (ci := 0) (v := .ref h2) (C := RJx4a65c) (T := TJx4a65c) (N := 3) hx hb hts in_Jx4a65c hown hK hP 0 rfl rfl 1 (by decide) (hts _ q_24) (fun _ h9 => h9) rfl dJx4a65c_add_9ea2d_13 ?_
  refine lv_aload_n hx hb dJx4a65c_add_9ea2d_16 rfl (lv_at hl 0 rfl) ?_
  refine va_get (D := (dC, dI)) (ci := 0) (v := .int 4) (C := RJx4a65c) (T := TJx4a65c) (N := 3) hx hb hts in_Jx4a65c hown hK hP 0 rfl rfl 2 (by decide) (hts _ q_74) (fun _ h9 => h9) rfl dJx4a65c_add_9ea2d_17 ?_
  have hM5 := k521_add l hl9 dC dI z h0 h1 h2 o0 o1 o2 o3 o4 H2.size kc0
  obtain ⟨hF3, hC6⟩ := pc_M hM5 hP hD hK hS hX hT hA [0, 1, 2] [0] rfl rfl rfl
  refine va_callv (va_runV (As := [.ref h1, .ref h2, .int 4]) (rest := []) ⟨hx, hb, hml, hown, hts⟩ hM5 (cwV 3 hts (gV q_123 q_124 q_125 q_12 q_122) rfl rfl rfl hV_Jx4a65c_add_72be8 ⟨Nat.le_of_ble_eq_true rfl, Nat.le_of_ble_eq_true rfl⟩) ⟨pc_blind, va_recv hK hP (ci := 0) (q := (RJx4a65c, TJx4a65c, 3)) (q0 := 0) rfl rfl, fun U hU hW => ⟨rfl, hC6 U hU hW⟩⟩ rfl rfl hl.1 rfl (lv_room (Nat.le_of_ble_eq_true rfl)) dJx4a65c_add_9ea2d_20 ⟨(Nat.le_of_ble_eq_true rfl), (Nat.le_of_ble_eq_true rfl)⟩) hS (fun q9 _ h9 => hF3 q9 h9) hF3 (fun u7 t7 H7 L7 ht7 hvm7 hw7 hB7 hz7 hk7 hS => ?_)
  obtain ⟨hP, hD, hK⟩ := pq_jn (wz := [(h0, ce286 h2), (h1, ce224 (z.2.1 0) o0 h1), (h2, ce200 kc0 o1 o2 o3 o4 h1)]) (tz := [(kc0, .object "java/lang/Object")]) hP hD hK [0, 1, 2] [] rfl hk7 hF3 hB7.1 ht7 hvm7 rfl rfl
  have hG : s.heap.size + 0 ≤ H7.size := Nat.le_trans hG hz7
  refine lv_iconst (v := 1) hx hb dJx4a65c_add_9ea2d_23 (by decide) ?_
  exact W.zret (v := 1) (ty := .boolean) hx hb hr rfl (fun t9 ht9 hW9 => ⟨⟨1, (), rfl, rfl, ⟨pq_mk2 hP hD hK [0, 1, 2] [0] rfl rfl rfl ht9 hW9, by rw [ht9]; exact Nat.le_trans (Nat.add_le_add_left (Nat.le_of_ble_eq_true rfl) _) hG⟩⟩, hS.F ht9⟩) hS.2.2 dJx4a65c_add_9ea2d_24

set_option maxHeartbeats 4000000 in
set_option maxRecDepth 100000 in
theorem k523_readsOnlyPlaced (l : Launch) (hl9 : l.stackTraces = false) (dC : Nat → ClassId) (dI : Nat → Nat → Nat) (z : XZ) (h0 h1 : Nat) (sz : Nat) : Met l yX2_readsOnlyPlaced (.code yX2_readsOnlyPlaced cX2_readsOnlyPlaced 3 (some .boolean) :: wsL_law) ({ frames := 1, cells := 0, slots := 0, locals := 20 }) (va_Pc [.ref h0] (PC (dC, dI) [(h0, ce256 (z.2.1 0) h1 h0), (h1, ce3 z.1)] [] sz z)) (va_Qi (fun (r : Int32) (_ : Unit) => r = 1) (fun (_ : Unit) (t : State) => PG (dC, dI) [(h0, ce256 (z.2.1 0) h1 h0), (h1, ce3 z.1)] [] (va_A [(h0, ce256 (z.2.1 0) h1 h0), (h1, ce3 z.1)] sz) sz 0 t) (va_A [(h0, ce256 (z.2.1 0) h1 h0), (h1, ce3 z.1)] sz)) 0 0 (va_A [(h0, ce256 (z.2.1 0) h1 h0), (h1, ce3 z.1)] sz) := by
  refine Met.ofW (cc := cX2_readsOnlyPlaced) (maxL := 3) (ret := (some .boolean)) (by decide) rfl ?_
  intro p e s m args below meth c s₁ B hml hv
  obtain ⟨rfl, hsz, hP, hK, hD0, hX, hT⟩ := hv
  have hx := B.exec
  have hb := B.bytes
  have hr := B.returns
  have hts0 := atoms_spec (ws := .code yX2_readsOnlyPlaced cX2_readsOnlyPlaced 3 (some .boolean) :: wsL_law) B.pre
  have hts := xTail hts0
  have hown : s.vm.findClass RX2 = some m.cls := xown B.named rfl
  have hlocks := B.notSynchronized
  subst hsz
  have hD := hD0.self (sz := s.heap.size)
  generalize hAe : va_A [(h0, ce256 (z.2.1 0) h1 h0), (h1, ce3 z.1)] s.heap.size = A at hD hX ⊢
  have hA : ∀ q : Nat, s.heap.size ≤ q → A q := fun q h => by rw [← hAe]; exact Or.inr h
  have hS : va_S A s.heap s.heap [] := va_S.rf
  have hG : s.heap.size + 0 ≤ s.heap.size := Nat.le_refl _
  have hl := lv_entry ([.ref h0]) (n := 3) (Nat.le_of_ble_eq_true rfl)
  rw [lg_entry_eq]
  generalize (lg_sl ([.ref h0]) ++ List.replicate (3 - (lg_sl ([.ref h0])).length) Slot.unset).toArray = ls at hl ⊢
  have hl : lv_has ls 3 [(0, .ref h0)] := hl
  refine lv_iconst (v := 0) hx hb dX2_readsOnlyPlaced_0 (by decide) ?_
  refine lv_istore_n (lv' := [(1, .int 0), (0, .ref h0)]) hx hb dX2_readsOnlyPlaced_1 rfl hl (by decide) rfl (fun ls hl => ?_)
  refine lv_iload_n hx hb dX2_readsOnlyPlaced_2 rfl (lv_at hl 0 rfl) ?_
  refine lv_aload_n hx hb dX2_readsOnlyPlaced_3 rfl (lv_at hl 1 rfl) ?_
  refine va_get (D := (dC, dI)) (ci := 3) (v := .ref h1) (C := RX2) (T := TX2) (N := 19) hx hb hts in_X2 hown hK hP 0 rfl rfl 2 (by decide) (hts _ q_96) (fun _ h9 => h9) rfl dX2_readsOnlyPlaced_4 ?_
  have hM3 := k9_size l hl9 dC dI z h1 s.heap.size 0 0
  obtain ⟨hF1, hC4⟩ := pc_M hM3 hP hD hK hS hX hT hA [1] [] rfl rfl rfl
  refine va_calli (va_runV (As := []) (rest := [.int 0]) ⟨hx, hb, hml, hown, hts⟩ hM3 (cwV 0 hts (gV q_160 q_77 q_78 q_12 q_75) rfl rfl rfl hV_Jx4a65c_size_8abf5 ⟨Nat.le_of_ble_eq_true rfl, Nat.le_of_ble_eq_true rfl⟩) ⟨pc_blind, va_recv hK hP (ci := 0) (q := (RJx4a65c, TJx4a65c, 3)) (q0 := 1) rfl rfl, fun U hU hW => ⟨rfl, hC4 U hU hW⟩⟩ rfl rfl hl.1 rfl (lv_room (Nat.le_of_ble_eq_true rfl)) dX2_readsOnlyPlaced_7 ⟨(Nat.le_of_ble_eq_true rfl), (Nat.le_of_ble_eq_true rfl)⟩) hS (fun q9 _ h9 => hF1 q9 h9) hF1 (fun r6 u5 t5 H5 L5 ht5 hvm5 hw5 hB5 hz5 hk5 hS => ?_)
  have hP := pq_keep hP hD [1] rfl hk5 hB5.1 ht5
  have hG : s.heap.size + 0 ≤ H5.size := Nat.le_trans hG hz5
  refine W.eq (g2 := F0 m 10 ls [.int 0, .int 0]) (by rw [hw5]) ?_
  refine lv_icmp_ge (tgt := 53) hx hb dX2_readsOnlyPlaced_10 (by decide) (fun _ => ?_) (fun cz => absurd (by decide) cz)
  refine lv_iconst (v := 1) hx hb dX2_readsOnlyPlaced_53 (by decide) ?_
  exact W.zret (v := 1) (ty := .boolean) hx hb hr rfl (fun t9 ht9 hW9 => ⟨⟨1, (), rfl, rfl, ⟨pq_mk2 hP hD hK [0, 1] [] rfl rfl rfl ht9 hW9, by rw [ht9]; exact Nat.le_trans (Nat.add_le_add_left (Nat.le_of_ble_eq_true rfl) _) hG⟩⟩, hS.F ht9⟩) hS.2.2 dX2_readsOnlyPlaced_54

set_option maxHeartbeats 4000000 in
set_option maxRecDepth 100000 in
theorem k524_add (l : Launch) (hl9 : l.stackTraces = false) (dC : Nat → ClassId) (dI : Nat → Nat → Nat) (z : XZ) (h0 h1 h2 : Nat) (o0 o1 o2 o3 o4 o5 : Nat) (sz : Nat) (kc0 : ClassId) : Met l yJx4a65c_add_72be8 (.code yJx4a65c_add_72be8 cJx4a65c_add_72be8 4 none :: wsL_law) ({ frames := 0, cells := 0, slots := 0, locals := 0 }) (va_Pc [.ref h0, .ref h1, .ref h2, .int 5] (PC (dC, dI) [(h0, ce288 h2), (h1, ce287 (z.2.1 0) o0 h1), (h2, ce200 kc0 o1 o2 o3 o4 o5)] [(kc0, .object "java/lang/Object")] sz z)) (va_Qv (fun (_ : Unit) => True) (fun (_ : Unit) (t : State) => PG (dC, dI) [(h0, ce289 h2), (h1, ce287 (z.2.1 0) o0 h1), (h2, ce258 kc0 o1 o2 o3 o4 o5 h1)] [(kc0, .object "java/lang/Object")] (va_A [(h0, ce288 h2), (h1, ce287 (z.2.1 0) o0 h1), (h2, ce200 kc0 o1 o2 o3 o4 o5)] sz) sz 0 t) (va_A [(h0, ce288 h2), (h1, ce287 (z.2.1 0) o0 h1), (h2, ce200 kc0 o1 o2 o3 o4 o5)] sz)) 0 0 (va_A [(h0, ce288 h2), (h1, ce287 (z.2.1 0) o0 h1), (h2, ce200 kc0 o1 o2 o3 o4 o5)] sz) := by
  refine Met.ofW (cc := cJx4a65c_add_72be8) (maxL := 4) (ret := none) (by decide) rfl ?_
  intro p e s m args below meth c s₁ B hml hv
  obtain ⟨rfl, hsz, hP, hK, hD0, hX, hT⟩ := hv
  have hx := B.exec
  have hb := B.bytes
  have hr := B.returns
  have hts0 := atoms_spec (ws := .code yJx4a65c_add_72be8 cJx4a65c_add_72be8 4 none :: wsL_law) B.pre
  have hts := xTail hts0
  have hown : s.vm.findClass RJx4a65c = some m.cls := xown B.named rfl
  have hlocks := B.notSynchronized
  subst hsz
  have hD := hD0.self (sz := s.heap.size)
  generalize hAe : va_A [(h0, ce288 h2), (h1, ce287 (z.2.1 0) o0 h1), (h2, ce200 kc0 o1 o2 o3 o4 o5)] s.heap.size = A at hD hX ⊢
  have hA : ∀ q : Nat, s.heap.size ≤ q → A q := fun q h => by rw [← hAe]; exact Or.inr h
  have hS : va_S A s.heap s.heap [] := va_S.rf
  have hG : s.heap.size + 0 ≤ s.heap.size := Nat.le_refl _
  have hl := lv_entry ([.ref h0, .ref h1, .ref h2, .int 5]) (n := 4) (Nat.le_of_ble_eq_true rfl)
  rw [lg_entry_eq]
  generalize (lg_sl ([.ref h0, .ref h1, .ref h2, .int 5]) ++ List.replicate (4 - (lg_sl ([.ref h0, .ref h1, .ref h2, .int 5])).length) Slot.unset).toArray = ls at hl ⊢
  have hl : lv_has ls 4 [(0, .ref h0), (1, .ref h1), (2, .ref h2), (3, .int 5)] := hl
  refine lv_iload_n hx hb dJx4a65c_add_72be8_0 rfl (lv_at hl 3 rfl) ?_
  refine lv_aload_n hx hb dJx4a65c_add_72be8_1 rfl (lv_at hl 2 rfl) ?_
  refine va_alen hx hb hK hP 2 0 rfl rfl (v := 10) rfl dJx4a65c_add_72be8_2 ?_
  refine lv_icmp_ne (tgt := 11) hx hb dJx4a65c_add_72be8_3 (by decide) (fun _ => ?_) (fun cz => absurd cz (by decide))
  refine lv_aload_n hx hb dJx4a65c_add_72be8_11 rfl (lv_at hl 2 rfl) ?_
  refine lv_iload_n hx hb dJx4a65c_add_72be8_12 rfl (lv_at hl 3 rfl) ?_
  refine lv_aload_n hx hb dJx4a65c_add_72be8_13 rfl (lv_at hl 1 rfl) ?_
  refine vb_astq (E := "java/lang/Object") (C := RX2) hx hb hK hP hD (va_Sre hS) 2 0 rfl rfl (va_recv hK hP (ci := 3) (q := (RX2, TX2, 19)) (q0 := 1) rfl rfl) (vb_asgC (hT.2.1.1 (RX2, "java/lang/Object") (by decide))) (i := 5) (by unfold vp_in; decide) dJx4a65c_add_72be8_14 (fun H1 _ hP hD hS' => ?_)
  have hG : s.heap.size + 0 ≤ H1.size := Nat.le_trans hG hS'.1
  have hS := va_Str hS hS'
  have hP : va_P (dC, dI) xCl [(h0, ce288 h2), (h1, ce287 (z.2.1 0) o0 h1), (h2, ce258 kc0 o1 o2 o3 o4 o5 h1)] H1 := hP
  have hD := vd_as hP hD rfl
  refine lv_aload_n hx hb dJx4a65c_add_72be8_15 rfl (lv_at hl 0 rfl) ?_
  refine lv_iload_n hx hb dJx4a65c_add_72be8_16 rfl (lv_at hl 3 rfl) ?_
  refine lv_iconst (v := 1) hx hb dJx4a65c_add_72be8_17 (by decide) ?_
  refine lv_iadd hx hb dJx4a65c_add_72be8_18 ?_
  refine lv_topi (fun y2 ey2 => ?_)
  obtain rfl : y2 = 6 := ey2.trans (by decide)
  refine va_put (D := (dC, dI)) (ci := 0) (v := .int 6) (ty := .int) (C := RJx4a65c) (T := TJx4a65c) (N := 3) hx hb hts in_Jx4a65c tyJx4a65c tyJx4a65c_ok nmJx4a65c hown hK hP hD (va_Sre hS) 0 rfl rfl 2 (by decide) (hts _ q_74) (fun _ h9 => h9) rfl (by decide +kernel) rfl rfl (Nat.le_of_ble_eq_true rfl) dJx4a65c_add_72be8_19 (fun H3 _ hP hD hS' => ?_)
  have hG : s.heap.size + 0 ≤ H3.size := Nat.le_trans hG hS'.1
  have hS := va_Str hS hS'
  have hP : va_P (dC, dI) xCl [(h0, ce289 h2), (h1, ce287 (z.2.1 0) o0 h1), (h2, ce258 kc0 o1 o2 o3 o4 o5 h1)] H3 := hP
  have hD := vd_as hP hD rfl
  exact W.vret hx hb hr (fun t9 ht9 hW9 => ⟨⟨(), rfl, trivial, ⟨pq_mk2 hP hD hK [0, 1, 2] [0] rfl rfl rfl ht9 hW9, by rw [ht9]; exact Nat.le_trans (Nat.add_le_add_left (Nat.le_of_ble_eq_true rfl) _) hG⟩⟩, hS.F ht9⟩) hS.2.2 dJx4a65c_add_72be8_22

set_option maxHeartbeats 4000000 in
set_option maxRecDepth 100000 in
theorem k525_add (l : Launch) (hl9 : l.stackTraces = false) (dC : Nat → ClassId) (dI : Nat → Nat → Nat) (z : XZ) (h0 h1 h2 : Nat) (o0 o1 o2 o3 o4 o5 : Nat) (sz : Nat) (kc0 : ClassId) : Met l yJx4a65c_add_9ea2d (.code yJx4a65c_add_9ea2d cJx4a65c_add_9ea2d 2 (some .boolean) :: wsL_law) ({ frames := 1, cells := 0, slots := 0, locals := 23 }) (va_Pc [.ref h0, .ref h1] (PC (dC, dI) [(h0, ce286 h2), (h1, ce287 (z.2.1 0) o0 h1), (h2, ce200 kc0 o1 o2 o3 o4 o5)] [(kc0, .object "java/lang/Object")] sz z)) (va_Qi (fun (r : Int32) (_ : Unit) => r = 1) (fun (_ : Unit) (t : State) => PG (dC, dI) [(h0, ce289 h2), (h1, ce287 (z.2.1 0) o0 h1), (h2, ce258 kc0 o1 o2 o3 o4 o5 h1)] [(kc0, .object "java/lang/Object")] (va_A [(h0, ce286 h2), (h1, ce287 (z.2.1 0) o0 h1), (h2, ce200 kc0 o1 o2 o3 o4 o5)] sz) sz 0 t) (va_A [(h0, ce286 h2), (h1, ce287 (z.2.1 0) o0 h1), (h2, ce200 kc0 o1 o2 o3 o4 o5)] sz)) 0 0 (va_A [(h0, ce286 h2), (h1, ce287 (z.2.1 0) o0 h1), (h2, ce200 kc0 o1 o2 o3 o4 o5)] sz) := by
  refine Met.ofW (cc := cJx4a65c_add_9ea2d) (maxL := 2) (ret := (some .boolean)) (by decide) rfl ?_
  intro p e s m args below meth c s₁ B hml hv
  obtain ⟨rfl, hsz, hP, hK, hD0, hX, hT⟩ := hv
  have hx := B.exec
  have hb := B.bytes
  have hr := B.returns
  have hts0 := atoms_spec (ws := .code yJx4a65c_add_9ea2d cJx4a65c_add_9ea2d 2 (some .boolean) :: wsL_law) B.pre
  have hts := xTail hts0
  have hown : s.vm.findClass RJx4a65c = some m.cls := xown B.named rfl
  have hlocks := B.notSynchronized
  subst hsz
  have hD := hD0.self (sz := s.heap.size)
  generalize hAe : va_A [(h0, ce286 h2), (h1, ce287 (z.2.1 0) o0 h1), (h2, ce200 kc0 o1 o2 o3 o4 o5)] s.heap.size = A at hD hX ⊢
  have hA : ∀ q : Nat, s.heap.size ≤ q → A q := fun q h => by rw [← hAe]; exact Or.inr h
  have hS : va_S A s.heap s.heap [] := va_S.rf
  have hG : s.heap.size + 0 ≤ s.heap.size := Nat.le_refl _
  have hl := lv_entry ([.ref h0, .ref h1]) (n := 2) (Nat.le_of_ble_eq_true rfl)
  rw [lg_entry_eq]
  generalize (lg_sl ([.ref h0, .ref h1]) ++ List.replicate (2 - (lg_sl ([.ref h0, .ref h1])).length) Slot.unset).toArray = ls at hl ⊢
  have hl : lv_has ls 2 [(0, .ref h0), (1, .ref h1)] := hl
  refine lv_aload_n hx hb dJx4a65c_add_9ea2d_0 rfl (lv_at hl 0 rfl) ?_
  refine lv_dup hx hb dJx4a65c_add_9ea2d_1 rfl ?_
  refine va_get (D := (dC, dI)) (ci := 0) (v := .int 26) (C := RJx4a65c) (T := TJx4a65c) (N := 3) hx hb hts in_Jx4a65c hown hK hP 0 rfl rfl 0 (by decide) (hts _ q_108) (u_same (hts _ q_107)) rfl dJx4a65c_add_9ea2d_2 ?_
  refine lv_iconst (v := 1) hx hb dJx4a65c_add_9ea2d_5 (by decide) ?_
  refine lv_iadd hx hb dJx4a65c_add_9ea2d_6 ?_
  refine lv_topi (fun y1 ey1 => ?_)
  obtain rfl : y1 = 27 := ey1.trans (by decide)
  refine va_put (D := (dC, dI)) (ci := 0) (v := .int 27) (ty := .int) (C := RJx4a65c) (T := TJx4a65c) (N := 3) hx hb hts in_Jx4a65c tyJx4a65c tyJx4a65c_ok nmJx4a65c hown hK hP hD (va_Sre hS) 0 rfl rfl 0 (by decide) (hts _ q_108) (u_same (hts _ q_107)) rfl (by decide +kernel) rfl rfl (Nat.le_of_ble_eq_true rfl) dJx4a65c_add_9ea2d_7 (fun H2 _ hP hD hS' => ?_)
  have hG : s.heap.size + 0 ≤ H2.size := Nat.le_trans hG hS'.1
  have hS := va_Str hS hS'
  have hP : va_P (dC, dI) xCl [(h0, ce288 h2), (h1, ce287 (z.2.1 0) o0 h1), (h2, ce200 kc0 o1 o2 o3 o4 o5)] H2 := hP
  have hD := vd_as hP hD rfl
  refine lv_aload_n hx hb dJx4a65c_add_9ea2d_10 rfl (lv_at hl 0 rfl) ?_
  refine lv_aload_n hx hb dJx4a65c_add_9ea2d_11 rfl (lv_at hl 1 rfl) ?_
  refine lv_aload_n hx hb dJx4a65c_add_9ea2d_12 rfl (lv_at hl 0 rfl) ?_
  refine va_get (D := (dC, dI)) (ci := 0) (v := .ref h2) (C := RJx4a65c) (T := TJx4a65c) (N := 3) hx hb hts in_Jx4a65c hown hK hP 0 rfl rfl 1 (by decide) (hts _ q_24) (fun _ h9 => h9) rfl dJx4a65c_add_9ea2d_13 ?_
  refine lv_aload_n hx hb dJx4a65c_add_9ea2d_16 rfl (lv_at hl 0 rfl) ?_
  refine va_get (D := (dC, dI)) (ci := 0) (v := .int 5) (C := RJx4a65c) (T := TJx4a65c) (N := 3) hx hb hts in_Jx4a65c hown hK hP 0 rfl rfl 2 (by decide) (hts _ q_74) (fun _ h9 => h9) rfl dJx4a65c_add_9ea2d_17 ?_
  have hM5 := k524_add l hl9 dC dI z h0 h1 h2 o0 o1 o2 o3 o4 o5 H2.size kc0
  obtain ⟨hF3, hC6⟩ := pc_M hM5 hP hD hK hS hX hT hA [0, 1, 2] [0] rfl rfl rfl
  refine va_callv (va_runV (As := [.ref h1, .ref h2, .int 5]) (rest := []) ⟨hx, hb, hml, hown, hts⟩ hM5 (cwV 3 hts (gV q_123 q_124 q_125 q_12 q_122) rfl rfl rfl hV_Jx4a65c_add_72be8 ⟨Nat.le_of_ble_eq_true rfl, Nat.le_of_ble_eq_true rfl⟩) ⟨pc_blind, va_recv hK hP (ci := 0) (q := (RJx4a65c, TJx4a65c, 3)) (q0 := 0) rfl rfl, fun U hU hW => ⟨rfl, hC6 U hU hW⟩⟩ rfl rfl hl.1 rfl (lv_room (Nat.le_of_ble_eq_true rfl)) dJx4a65c_add_9ea2d_20 ⟨(Nat.le_of_ble_eq_true rfl), (Nat.le_of_ble_eq_true rfl)⟩) hS (fun q9 _ h9 => hF3 q9 h9) hF3 (fun u7 t7 H7 L7 ht7 hvm7 hw7 hB7 hz7 hk7 hS => ?_)
  obtain ⟨hP, hD, hK⟩ := pq_jn (wz := [(h0, ce289 h2), (h1, ce287 (z.2.1 0) o0 h1), (h2, ce258 kc0 o1 o2 o3 o4 o5 h1)]) (tz := [(kc0, .object "java/lang/Object")]) hP hD hK [0, 1, 2] [] rfl hk7 hF3 hB7.1 ht7 hvm7 rfl rfl
  have hG : s.heap.size + 0 ≤ H7.size := Nat.le_trans hG hz7
  refine lv_iconst (v := 1) hx hb dJx4a65c_add_9ea2d_23 (by decide) ?_
  exact W.zret (v := 1) (ty := .boolean) hx hb hr rfl (fun t9 ht9 hW9 => ⟨⟨1, (), rfl, rfl, ⟨pq_mk2 hP hD hK [0, 1, 2] [0] rfl rfl rfl ht9 hW9, by rw [ht9]; exact Nat.le_trans (Nat.add_le_add_left (Nat.le_of_ble_eq_true rfl) _) hG⟩⟩, hS.F ht9⟩) hS.2.2 dJx4a65c_add_9ea2d_24

set_option maxHeartbeats 4000000 in
set_option maxRecDepth 100000 in
theorem k526_placeThoseReady (l : Launch) (hl9 : l.stackTraces = false) (dC : Nat → ClassId) (dI : Nat → Nat → Nat) (z : XZ) (h0 h1 h2 h3 h4 h5 h6 h7 h8 h9 h10 h11 h12 h13 h14 h15 h16 : Nat) (o0 o1 : Nat) (sz : Nat) (kc0 kc1 : ClassId) : Met l yX0_placeThoseReady (.code yX0_placeThoseReady cX0_placeThoseReady 3 none :: wsL_law) ({ frames := 3, cells := 0, slots := 0, locals := 64 }) (va_Pc [.ref h0] (PC (dC, dI) [(h0, ce7 h1 o0 o1 h2), (h1, ce259 h3), (h2, ce261 h4), (h3, ce258 kc0 h5 h6 h7 h8 h9 h10), (h4, ce267 kc1), (h5, ce32 (z.2.1 0) h11 h5), (h6, ce67 (z.2.1 0) h12 h6), (h7, ce99 (z.2.1 0) h13 h7), (h8, ce144 (z.2.1 0) h14 h8), (h9, ce198 (z.2.1 0) h15 h9), (h10, ce256 (z.2.1 0) h16 h10), (h11, ce3 z.1), (h12, ce3 z.1), (h13, ce3 z.1), (h14, ce3 z.1), (h15, ce3 z.1), (h16, ce3 z.1)] [(kc0, .object "java/lang/Object"), (kc1, .object "java/lang/Object")] sz z)) (va_Qv (fun (_ : Unit) => True) (fun (_ : Unit) (t : State) => PG (dC, dI) [(h0, ce7 h1 o0 o1 h2), (h1, ce259 h3), (h2, ce289 h4), (h3, ce258 kc0 h5 h6 h7 h8 h9 h10), (h4, ce258 kc1 h5 h6 h7 h8 h9 h10), (h5, ce38 (z.2.1 0) h11 h5), (h6, ce77 (z.2.1 0) h12 h6), (h7, ce115 (z.2.1 0) h13 h7), (h8, ce165 (z.2.1 0) h14 h8), (h9, ce224 (z.2.1 0) h15 h9), (h10, ce287 (z.2.1 0) h16 h10), (h11, ce3 z.1), (h12, ce3 z.1), (h13, ce3 z.1), (h14, ce3 z.1), (h15, ce3 z.1), (h16, ce3 z.1)] [(kc0, .object "java/lang/Object"), (kc1, .object "java/lang/Object")] (va_A [(h0, ce7 h1 o0 o1 h2), (h1, ce259 h3), (h2, ce261 h4), (h3, ce258 kc0 h5 h6 h7 h8 h9 h10), (h4, ce267 kc1), (h5, ce32 (z.2.1 0) h11 h5), (h6, ce67 (z.2.1 0) h12 h6), (h7, ce99 (z.2.1 0) h13 h7), (h8, ce144 (z.2.1 0) h14 h8), (h9, ce198 (z.2.1 0) h15 h9), (h10, ce256 (z.2.1 0) h16 h10), (h11, ce3 z.1), (h12, ce3 z.1), (h13, ce3 z.1), (h14, ce3 z.1), (h15, ce3 z.1), (h16, ce3 z.1)] sz) sz 0 t) (va_A [(h0, ce7 h1 o0 o1 h2), (h1, ce259 h3), (h2, ce261 h4), (h3, ce258 kc0 h5 h6 h7 h8 h9 h10), (h4, ce267 kc1), (h5, ce32 (z.2.1 0) h11 h5), (h6, ce67 (z.2.1 0) h12 h6), (h7, ce99 (z.2.1 0) h13 h7), (h8, ce144 (z.2.1 0) h14 h8), (h9, ce198 (z.2.1 0) h15 h9), (h10, ce256 (z.2.1 0) h16 h10), (h11, ce3 z.1), (h12, ce3 z.1), (h13, ce3 z.1), (h14, ce3 z.1), (h15, ce3 z.1), (h16, ce3 z.1)] sz)) 0 0 (va_A [(h0, ce7 h1 o0 o1 h2), (h1, ce259 h3), (h2, ce261 h4), (h3, ce258 kc0 h5 h6 h7 h8 h9 h10), (h4, ce267 kc1), (h5, ce32 (z.2.1 0) h11 h5), (h6, ce67 (z.2.1 0) h12 h6), (h7, ce99 (z.2.1 0) h13 h7), (h8, ce144 (z.2.1 0) h14 h8), (h9, ce198 (z.2.1 0) h15 h9), (h10, ce256 (z.2.1 0) h16 h10), (h11, ce3 z.1), (h12, ce3 z.1), (h13, ce3 z.1), (h14, ce3 z.1), (h15, ce3 z.1), (h16, ce3 z.1)] sz) := by
  refine Met.ofW (cc := cX0_placeThoseReady) (maxL := 3) (ret := none) (by decide) rfl ?_
  intro p e s m args below meth c s₁ B hml hv
  obtain ⟨rfl, hsz, hP, hK, hD0, hX, hT⟩ := hv
  have hx := B.exec
  have hb := B.bytes
  have hr := B.returns
  have hts0 := atoms_spec (ws := .code yX0_placeThoseReady cX0_placeThoseReady 3 none :: wsL_law) B.pre
  have hts := xTail hts0
  have hown : s.vm.findClass RX0 = some m.cls := xown B.named rfl
  have hlocks := B.notSynchronized
  subst hsz
  have hD := hD0.self (sz := s.heap.size)
  generalize hAe : va_A [(h0, ce7 h1 o0 o1 h2), (h1, ce259 h3), (h2, ce261 h4), (h3, ce258 kc0 h5 h6 h7 h8 h9 h10), (h4, ce267 kc1), (h5, ce32 (z.2.1 0) h11 h5), (h6, ce67 (z.2.1 0) h12 h6), (h7, ce99 (z.2.1 0) h13 h7), (h8, ce144 (z.2.1 0) h14 h8), (h9, ce198 (z.2.1 0) h15 h9), (h10, ce256 (z.2.1 0) h16 h10), (h11, ce3 z.1), (h12, ce3 z.1), (h13, ce3 z.1), (h14, ce3 z.1), (h15, ce3 z.1), (h16, ce3 z.1)] s.heap.size = A at hD hX ⊢
  have hA : ∀ q : Nat, s.heap.size ≤ q → A q := fun q h => by rw [← hAe]; exact Or.inr h
  have hS : va_S A s.heap s.heap [] := va_S.rf
  have hG : s.heap.size + 0 ≤ s.heap.size := Nat.le_refl _
  have hl := lv_entry ([.ref h0]) (n := 3) (Nat.le_of_ble_eq_true rfl)
  rw [lg_entry_eq]
  generalize (lg_sl ([.ref h0]) ++ List.replicate (3 - (lg_sl ([.ref h0])).length) Slot.unset).toArray = ls at hl ⊢
  have hl : lv_has ls 3 [(0, .ref h0)] := hl
  refine lv_iconst (v := 0) hx hb dX0_placeThoseReady_0 (by decide) ?_
  refine lv_istore_n (lv' := [(1, .int 0), (0, .ref h0)]) hx hb dX0_placeThoseReady_1 rfl hl (by decide) rfl (fun ls hl => ?_)
  refine lv_iload_n hx hb dX0_placeThoseReady_2 rfl (lv_at hl 0 rfl) ?_
  refine lv_aload_n hx hb dX0_placeThoseReady_3 rfl (lv_at hl 1 rfl) ?_
  refine va_get (D := (dC, dI)) (ci := 2) (v := .ref h1) (C := RX0) (T := TX0) (N := 4) hx hb hts in_X0 hown hK hP 0 rfl rfl 0 (by decide) (hts _ q_28) (fun _ h9 => h9) rfl dX0_placeThoseReady_4 ?_
  have hM3 := k20_size l hl9 dC dI z h1 h3 s.heap.size 6 6
  obtain ⟨hF1, hC4⟩ := pc_M hM3 hP hD hK hS hX hT hA [1] [] rfl rfl rfl
  refine va_calli (va_runV (As := []) (rest := [.int 0]) ⟨hx, hb, hml, hown, hts⟩ hM3 (cwV 0 hts (gV q_92 q_77 q_78 q_12 q_75) rfl rfl rfl hV_Jx4a65c_size_8abf5 ⟨Nat.le_of_ble_eq_true rfl, Nat.le_of_ble_eq_true rfl⟩) ⟨pc_blind, va_recv hK hP (ci := 0) (q := (RJx4a65c, TJx4a65c, 3)) (q0 := 1) rfl rfl, fun U hU hW => ⟨rfl, hC4 U hU hW⟩⟩ rfl rfl hl.1 rfl (lv_room (Nat.le_of_ble_eq_true rfl)) dX0_placeThoseReady_7 ⟨(Nat.le_of_ble_eq_true rfl), (Nat.le_of_ble_eq_true rfl)⟩) hS (fun q9 _ h9 => hF1 q9 h9) hF1 (fun r6 u5 t5 H5 L5 ht5 hvm5 hw5 hB5 hz5 hk5 hS => ?_)
  have hP := pq_keep hP hD [1] rfl hk5 hB5.1 ht5
  have hG : s.heap.size + 0 ≤ H5.size := Nat.le_trans hG hz5
  refine W.eq (g2 := F0 m 10 ls [.int 6, .int 0]) (by rw [hw5]) ?_
  refine lv_icmp_ge (tgt := 59) hx hb dX0_placeThoseReady_10 (by decide) (fun cz => absurd cz (by decide)) (fun _ => ?_)
  refine lv_aload_n hx hb dX0_placeThoseReady_13 rfl (lv_at hl 1 rfl) ?_
  refine va_get (D := (dC, dI)) (ci := 2) (v := .ref h1) (C := RX0) (T := TX0) (N := 4) hx hb hts in_X0 hown hK hP 0 rfl rfl 0 (by decide) (hts _ q_28) (fun _ h9 => h9) rfl dX0_placeThoseReady_14 ?_
  refine lv_iload_n hx hb dX0_placeThoseReady_17 rfl (lv_at hl 0 rfl) ?_
  have hM9 := k492_get l hl9 dC dI z h1 h3 h5 h6 h7 h8 h9 h10 H5.size kc0
  obtain ⟨hF7, hC10⟩ := pc_M hM9 hP hD hK hS hX hT hA [1, 3] [0] rfl rfl rfl
  refine va_callr (va_runV (As := [.int 0]) (rest := []) ⟨hx, hb, hml, hown, hts⟩ hM9 (cwV 1 hts (gV q_156 q_157 q_158 q_12 q_155) rfl rfl rfl hV_Jx4a65c_get_915e3 ⟨Nat.le_of_ble_eq_true rfl, Nat.le_of_ble_eq_true rfl⟩) ⟨pc_blind, va_recv hK hP (ci := 0) (q := (RJx4a65c, TJx4a65c, 3)) (q0 := 1) rfl rfl, fun U hU hW => ⟨rfl, hC10 U hU hW⟩⟩ rfl rfl hl.1 rfl (lv_room (Nat.le_of_ble_eq_true rfl)) dX0_placeThoseReady_18 ⟨(Nat.le_of_ble_eq_true rfl), (Nat.le_of_ble_eq_true rfl)⟩) hS (fun q9 _ h9 => hF7 q9 h9) hF7 (fun u11 r12 t11 H11 L11 ht11 hvm11 hw11 hB11 hz11 hk11 hS => ?_)
  obtain ⟨hr11, hB11⟩ := hB11
  have hP := pq_keep hP hD [1, 3] rfl hk11 hB11.1 ht11
  have hG : s.heap.size + 0 ≤ H11.size := Nat.le_trans hG hz11
  refine W.eq (g2 := F0 m 21 ls [.ref h5]) (by rw [hr11]) ?_
  refine va_castE (nm := RX2) hx hb hown (hts _ q_89) (va_recv hK hP (ci := 3) (q := (RX2, TX2, 19)) (q0 := 5) rfl rfl) dX0_placeThoseReady_21 ?_
  refine lv_astore_n (lv' := [(2, .ref h5), (1, .int 0), (0, .ref h0)]) hx hb dX0_placeThoseReady_24 rfl hl (by decide) rfl (fun ls hl => ?_)
  refine lv_aload_n hx hb dX0_placeThoseReady_25 rfl (lv_at hl 0 rfl) ?_
  refine va_get (D := (dC, dI)) (ci := 3) (v := .int 0) (C := RX2) (T := TX2) (N := 19) hx hb hts in_X2 hown hK hP 5 rfl rfl 17 (by decide) (hts _ q_159) (fun _ h9 => h9) rfl dX0_placeThoseReady_26 ?_
  refine lv_if_ne (tgt := 53) hx hb dX0_placeThoseReady_29 (by decide) (fun cz => absurd (by decide) cz) (fun _ => ?_)
  refine lv_aload_n hx hb dX0_placeThoseReady_32 rfl (lv_at hl 0 rfl) ?_
  have hM15 := k25_readsOnlyPlaced l hl9 dC dI z h5 h11 H11.size
  obtain ⟨hF13, hC16⟩ := pc_M hM15 hP hD hK hS hX hT hA [5, 11] [] rfl rfl rfl
  refine va_calli (va_runV (As := []) (rest := []) ⟨hx, hb, hml, hown, hts⟩ hM15 (cwV 0 hts (gV q_162 q_163 q_164 q_91 q_161) rfl rfl rfl hV_X2_readsOnlyPlaced ⟨Nat.le_of_ble_eq_true rfl, Nat.le_of_ble_eq_true rfl⟩) ⟨pc_blind, va_recv hK hP (ci := 3) (q := (RX2, TX2, 19)) (q0 := 5) rfl rfl, fun U hU hW => ⟨rfl, hC16 U hU hW⟩⟩ rfl rfl hl.1 rfl (lv_room (Nat.le_of_ble_eq_true rfl)) dX0_placeThoseReady_33 ⟨(Nat.le_of_ble_eq_true rfl), (Nat.le_of_ble_eq_true rfl)⟩) hS (fun q9 _ h9 => hF13 q9 h9) hF13 (fun r18 u17 t17 H17 L17 ht17 hvm17 hw17 hB17 hz17 hk17 hS => ?_)
  have hP := pq_keep hP hD [5, 11] rfl hk17 hB17.1 ht17
  have hG : s.heap.size + 0 ≤ H17.size := Nat.le_trans hG hz17
  refine W.eq (g2 := F0 m 36 ls [.int 1]) (by rw [hw17]) ?_
  refine lv_if_eq (tgt := 53) hx hb dX0_placeThoseReady_36 (by decide) (fun cz => absurd cz (by decide)) (fun _ => ?_)
  refine lv_aload_n hx hb dX0_placeThoseReady_39 rfl (lv_at hl 0 rfl) ?_
  refine lv_iconst (v := 1) hx hb dX0_placeThoseReady_40 (by decide) ?_
  refine va_put (D := (dC, dI)) (ci := 3) (v := .int 1) (ty := .boolean) (C := RX2) (T := TX2) (N := 19) hx hb hts in_X2 tyX2 tyX2_ok nmX2 hown hK hP hD (va_Sre hS) 5 rfl rfl 17 (by decide) (hts _ q_159) (fun _ h9 => h9) rfl (by decide +kernel) rfl rfl (Nat.le_of_ble_eq_true rfl) dX0_placeThoseReady_41 (fun H19 _ hP hD hS' => ?_)
  have hG : s.heap.size + 0 ≤ H19.size := Nat.le_trans hG hS'.1
  have hS := va_Str hS hS'
  have hP : va_P (dC, dI) xCl [(h0, ce7 h1 o0 o1 h2), (h1, ce259 h3), (h2, ce261 h4), (h3, ce258 kc0 h5 h6 h7 h8 h9 h10), (h4, ce267 kc1), (h5, ce38 (z.2.1 0) h11 h5), (h6, ce67 (z.2.1 0) h12 h6), (h7, ce99 (z.2.1 0) h13 h7), (h8, ce144 (z.2.1 0) h14 h8), (h9, ce198 (z.2.1 0) h15 h9), (h10, ce256 (z.2.1 0) h16 h10), (h11, ce3 z.1), (h12, ce3 z.1), (h13, ce3 z.1), (h14, ce3 z.1), (h15, ce3 z.1), (h16, ce3 z.1)] H19 := hP
  have hD := vd_as hP hD rfl
  refine lv_aload_n hx hb dX0_placeThoseReady_44 rfl (lv_at hl 2 rfl) ?_
  refine va_get (D := (dC, dI)) (ci := 2) (v := .ref h2) (C := RX0) (T := TX0) (N := 4) hx hb hts in_X0 hown hK hP 0 rfl rfl 3 (by decide) (hts _ q_31) (fun _ h9 => h9) rfl dX0_placeThoseReady_45 ?_
  refine lv_aload_n hx hb dX0_placeThoseReady_48 rfl (lv_at hl 0 rfl) ?_
  have hM22 := k514_add l hl9 dC dI z h2 h5 h4 h11 H19.size kc1
  obtain ⟨hF20, hC23⟩ := pc_M hM22 hP hD hK hS hX hT hA [2, 5, 4] [1] rfl rfl rfl
  refine va_calli (va_runV (As := [.ref h5]) (rest := []) ⟨hx, hb, hml, hown, hts⟩ hM22 (cwV 1 hts (gV q_127 q_128 q_129 q_12 q_126) rfl rfl rfl hV_Jx4a65c_add_9ea2d ⟨Nat.le_of_ble_eq_true rfl, Nat.le_of_ble_eq_true rfl⟩) ⟨pc_blind, va_recv hK hP (ci := 0) (q := (RJx4a65c, TJx4a65c, 3)) (q0 := 2) rfl rfl, fun U hU hW => ⟨rfl, hC23 U hU hW⟩⟩ rfl rfl hl.1 rfl (lv_room (Nat.le_of_ble_eq_true rfl)) dX0_placeThoseReady_49 ⟨(Nat.le_of_ble_eq_true rfl), (Nat.le_of_ble_eq_true rfl)⟩) hS (fun q9 _ h9 => hF20 q9 h9) hF20 (fun r25 u24 t24 H24 L24 ht24 hvm24 hw24 hB24 hz24 hk24 hS => ?_)
  obtain ⟨hP, hD, hK⟩ := pq_jn (wz := [(h0, ce7 h1 o0 o1 h2), (h1, ce259 h3), (h3, ce258 kc0 h5 h6 h7 h8 h9 h10), (h6, ce67 (z.2.1 0) h12 h6), (h7, ce99 (z.2.1 0) h13 h7), (h8, ce144 (z.2.1 0) h14 h8), (h9, ce198 (z.2.1 0) h15 h9), (h10, ce256 (z.2.1 0) h16 h10), (h11, ce3 z.1), (h12, ce3 z.1), (h13, ce3 z.1), (h14, ce3 z.1), (h15, ce3 z.1), (h16, ce3 z.1), (h2, ce270 h4), (h5, ce38 (z.2.1 0) h11 h5), (h4, ce271 kc1 h5)]) (tz := [(kc0, .object "java/lang/Object"), (kc1, .object "java/lang/Object")]) hP hD hK [2, 5, 4] [0] rfl hk24 hF20 hB24.1 ht24 hvm24 rfl rfl
  have hG : s.heap.size + 0 ≤ H24.size := Nat.le_trans hG hz24
  refine W.eq (g2 := F0 m 52 ls [.int 1]) (by rw [hw24]) ?_
  refine lv_pop hx hb dX0_placeThoseReady_52 rfl ?_
  refine lv_iinc (v := 1) (lv' := [(1, .int 1), (2, .ref h5), (0, .ref h0)]) hx hb dX0_placeThoseReady_53 hl (k := 1) rfl (by decide) (by decide) rfl (fun ls hl => ?_)
  refine lv_goto (tgt := 2) hx hb dX0_placeThoseReady_56 (by decide) ?_
  refine lv_iload_n hx hb dX0_placeThoseReady_2 rfl (lv_at hl 0 rfl) ?_
  refine lv_aload_n hx hb dX0_placeThoseReady_3 rfl (lv_at hl 2 rfl) ?_
  refine va_get (D := (dC, dI)) (ci := 2) (v := .ref h1) (C := RX0) (T := TX0) (N := 4) hx hb hts in_X0 hown hK hP 0 rfl rfl 0 (by decide) (hts _ q_28) (fun _ h9 => h9) rfl dX0_placeThoseReady_4 ?_
  have hM28 := k20_size l hl9 dC dI z h1 h3 H24.size 6 6
  obtain ⟨hF26, hC29⟩ := pc_M hM28 hP hD hK hS hX hT hA [1] [] rfl rfl rfl
  refine va_calli (va_runV (As := []) (rest := [.int 1]) ⟨hx, hb, hml, hown, hts⟩ hM28 (cwV 0 hts (gV q_92 q_77 q_78 q_12 q_75) rfl rfl rfl hV_Jx4a65c_size_8abf5 ⟨Nat.le_of_ble_eq_true rfl, Nat.le_of_ble_eq_true rfl⟩) ⟨pc_blind, va_recv hK hP (ci := 0) (q := (RJx4a65c, TJx4a65c, 3)) (q0 := 1) rfl rfl, fun U hU hW => ⟨rfl, hC29 U hU hW⟩⟩ rfl rfl hl.1 rfl (lv_room (Nat.le_of_ble_eq_true rfl)) dX0_placeThoseReady_7 ⟨(Nat.le_of_ble_eq_true rfl), (Nat.le_of_ble_eq_true rfl)⟩) hS (fun q9 _ h9 => hF26 q9 h9) hF26 (fun r31 u30 t30 H30 L30 ht30 hvm30 hw30 hB30 hz30 hk30 hS => ?_)
  have hP := pq_keep hP hD [1] rfl hk30 hB30.1 ht30
  have hG : s.heap.size + 0 ≤ H30.size := Nat.le_trans hG hz30
  refine W.eq (g2 := F0 m 10 ls [.int 6, .int 1]) (by rw [hw30]) ?_
  refine lv_icmp_ge (tgt := 59) hx hb dX0_placeThoseReady_10 (by decide) (fun cz => absurd cz (by decide)) (fun _ => ?_)
  refine lv_aload_n hx hb dX0_placeThoseReady_13 rfl (lv_at hl 2 rfl) ?_
  refine va_get (D := (dC, dI)) (ci := 2) (v := .ref h1) (C := RX0) (T := TX0) (N := 4) hx hb hts in_X0 hown hK hP 0 rfl rfl 0 (by decide) (hts _ q_28) (fun _ h9 => h9) rfl dX0_placeThoseReady_14 ?_
  refine lv_iload_n hx hb dX0_placeThoseReady_17 rfl (lv_at hl 0 rfl) ?_
  have hM34 := k496_get l hl9 dC dI z h1 h3 h5 h6 h7 h8 h9 h10 H30.size kc0
  obtain ⟨hF32, hC35⟩ := pc_M hM34 hP hD hK hS hX hT hA [1, 2] [0] rfl rfl rfl
  refine va_callr (va_runV (As := [.int 1]) (rest := []) ⟨hx, hb, hml, hown, hts⟩ hM34 (cwV 1 hts (gV q_156 q_157 q_158 q_12 q_155) rfl rfl rfl hV_Jx4a65c_get_915e3 ⟨Nat.le_of_ble_eq_true rfl, Nat.le_of_ble_eq_true rfl⟩) ⟨pc_blind, va_recv hK hP (ci := 0) (q := (RJx4a65c, TJx4a65c, 3)) (q0 := 1) rfl rfl, fun U hU hW => ⟨rfl, hC35 U hU hW⟩⟩ rfl rfl hl.1 rfl (lv_room (Nat.le_of_ble_eq_true rfl)) dX0_placeThoseReady_18 ⟨(Nat.le_of_ble_eq_true rfl), (Nat.le_of_ble_eq_true rfl)⟩) hS (fun q9 _ h9 => hF32 q9 h9) hF32 (fun u36 r37 t36 H36 L36 ht36 hvm36 hw36 hB36 hz36 hk36 hS => ?_)
  obtain ⟨hr36, hB36⟩ := hB36
  have hP := pq_keep hP hD [1, 2] rfl hk36 hB36.1 ht36
  have hG : s.heap.size + 0 ≤ H36.size := Nat.le_trans hG hz36
  refine W.eq (g2 := F0 m 21 ls [.ref h6]) (by rw [hr36]) ?_
  refine va_castE (nm := RX2) hx hb hown (hts _ q_89) (va_recv hK hP (ci := 3) (q := (RX2, TX2, 19)) (q0 := 3) rfl rfl) dX0_placeThoseReady_21 ?_
  refine lv_astore_n (lv' := [(2, .ref h6), (1, .int 1), (0, .ref h0)]) hx hb dX0_placeThoseReady_24 rfl hl (by decide) rfl (fun ls hl => ?_)
  refine lv_aload_n hx hb dX0_placeThoseReady_25 rfl (lv_at hl 0 rfl) ?_
  refine va_get (D := (dC, dI)) (ci := 3) (v := .int 0) (C := RX2) (T := TX2) (N := 19) hx hb hts in_X2 hown hK hP 3 rfl rfl 17 (by decide) (hts _ q_159) (fun _ h9 => h9) rfl dX0_placeThoseReady_26 ?_
  refine lv_if_ne (tgt := 53) hx hb dX0_placeThoseReady_29 (by decide) (fun cz => absurd (by decide) cz) (fun _ => ?_)
  refine lv_aload_n hx hb dX0_placeThoseReady_32 rfl (lv_at hl 0 rfl) ?_
  have hM40 := k98_readsOnlyPlaced l hl9 dC dI z h6 h12 H36.size
  obtain ⟨hF38, hC41⟩ := pc_M hM40 hP hD hK hS hX hT hA [3, 9] [] rfl rfl rfl
  refine va_calli (va_runV (As := []) (rest := []) ⟨hx, hb, hml, hown, hts⟩ hM40 (cwV 0 hts (gV q_162 q_163 q_164 q_91 q_161) rfl rfl rfl hV_X2_readsOnlyPlaced ⟨Nat.le_of_ble_eq_true rfl, Nat.le_of_ble_eq_true rfl⟩) ⟨pc_blind, va_recv hK hP (ci := 3) (q := (RX2, TX2, 19)) (q0 := 3) rfl rfl, fun U hU hW => ⟨rfl, hC41 U hU hW⟩⟩ rfl rfl hl.1 rfl (lv_room (Nat.le_of_ble_eq_true rfl)) dX0_placeThoseReady_33 ⟨(Nat.le_of_ble_eq_true rfl), (Nat.le_of_ble_eq_true rfl)⟩) hS (fun q9 _ h9 => hF38 q9 h9) hF38 (fun r43 u42 t42 H42 L42 ht42 hvm42 hw42 hB42 hz42 hk42 hS => ?_)
  have hP := pq_keep hP hD [3, 9] rfl hk42 hB42.1 ht42
  have hG : s.heap.size + 0 ≤ H42.size := Nat.le_trans hG hz42
  refine W.eq (g2 := F0 m 36 ls [.int 1]) (by rw [hw42]) ?_
  refine lv_if_eq (tgt := 53) hx hb dX0_placeThoseReady_36 (by decide) (fun cz => absurd cz (by decide)) (fun _ => ?_)
  refine lv_aload_n hx hb dX0_placeThoseReady_39 rfl (lv_at hl 0 rfl) ?_
  refine lv_iconst (v := 1) hx hb dX0_placeThoseReady_40 (by decide) ?_
  refine va_put (D := (dC, dI)) (ci := 3) (v := .int 1) (ty := .boolean) (C := RX2) (T := TX2) (N := 19) hx hb hts in_X2 tyX2 tyX2_ok nmX2 hown hK hP hD (va_Sre hS) 3 rfl rfl 17 (by decide) (hts _ q_159) (fun _ h9 => h9) rfl (by decide +kernel) rfl rfl (Nat.le_of_ble_eq_true rfl) dX0_placeThoseReady_41 (fun H44 _ hP hD hS' => ?_)
  have hG : s.heap.size + 0 ≤ H44.size := Nat.le_trans hG hS'.1
  have hS := va_Str hS hS'
  have hP : va_P (dC, dI) xCl [(h0, ce7 h1 o0 o1 h2), (h1, ce259 h3), (h3, ce258 kc0 h5 h6 h7 h8 h9 h10), (h6, ce77 (z.2.1 0) h12 h6), (h7, ce99 (z.2.1 0) h13 h7), (h8, ce144 (z.2.1 0) h14 h8), (h9, ce198 (z.2.1 0) h15 h9), (h10, ce256 (z.2.1 0) h16 h10), (h11, ce3 z.1), (h12, ce3 z.1), (h13, ce3 z.1), (h14, ce3 z.1), (h15, ce3 z.1), (h16, ce3 z.1), (h2, ce270 h4), (h5, ce38 (z.2.1 0) h11 h5), (h4, ce271 kc1 h5)] H44 := hP
  have hD := vd_as hP hD rfl
  refine lv_aload_n hx hb dX0_placeThoseReady_44 rfl (lv_at hl 2 rfl) ?_
  refine va_get (D := (dC, dI)) (ci := 2) (v := .ref h2) (C := RX0) (T := TX0) (N := 4) hx hb hts in_X0 hown hK hP 0 rfl rfl 3 (by decide) (hts _ q_31) (fun _ h9 => h9) rfl dX0_placeThoseReady_45 ?_
  refine lv_aload_n hx hb dX0_placeThoseReady_48 rfl (lv_at hl 0 rfl) ?_
  have hM47 := k516_add l hl9 dC dI z h2 h6 h4 h12 h5 H44.size kc1
  obtain ⟨hF45, hC48⟩ := pc_M hM47 hP hD hK hS hX hT hA [14, 3, 16] [1] rfl rfl rfl
  refine va_calli (va_runV (As := [.ref h6]) (rest := []) ⟨hx, hb, hml, hown, hts⟩ hM47 (cwV 1 hts (gV q_127 q_128 q_129 q_12 q_126) rfl rfl rfl hV_Jx4a65c_add_9ea2d ⟨Nat.le_of_ble_eq_true rfl, Nat.le_of_ble_eq_true rfl⟩) ⟨pc_blind, va_recv hK hP (ci := 0) (q := (RJx4a65c, TJx4a65c, 3)) (q0 := 14) rfl rfl, fun U hU hW => ⟨rfl, hC48 U hU hW⟩⟩ rfl rfl hl.1 rfl (lv_room (Nat.le_of_ble_eq_true rfl)) dX0_placeThoseReady_49 ⟨(Nat.le_of_ble_eq_true rfl), (Nat.le_of_ble_eq_true rfl)⟩) hS (fun q9 _ h9 => hF45 q9 h9) hF45 (fun r50 u49 t49 H49 L49 ht49 hvm49 hw49 hB49 hz49 hk49 hS => ?_)
  obtain ⟨hP, hD, hK⟩ := pq_jn (wz := [(h0, ce7 h1 o0 o1 h2), (h1, ce259 h3), (h3, ce258 kc0 h5 h6 h7 h8 h9 h10), (h7, ce99 (z.2.1 0) h13 h7), (h8, ce144 (z.2.1 0) h14 h8), (h9, ce198 (z.2.1 0) h15 h9), (h10, ce256 (z.2.1 0) h16 h10), (h11, ce3 z.1), (h12, ce3 z.1), (h13, ce3 z.1), (h14, ce3 z.1), (h15, ce3 z.1), (h16, ce3 z.1), (h5, ce38 (z.2.1 0) h11 h5), (h2, ce274 h4), (h6, ce77 (z.2.1 0) h12 h6), (h4, ce275 kc1 h5 h6)]) (tz := [(kc0, .object "java/lang/Object"), (kc1, .object "java/lang/Object")]) hP hD hK [14, 3, 16] [0] rfl hk49 hF45 hB49.1 ht49 hvm49 rfl rfl
  have hG : s.heap.size + 0 ≤ H49.size := Nat.le_trans hG hz49
  refine W.eq (g2 := F0 m 52 ls [.int 1]) (by rw [hw49]) ?_
  refine lv_pop hx hb dX0_placeThoseReady_52 rfl ?_
  refine lv_iinc (v := 2) (lv' := [(1, .int 2), (2, .ref h6), (0, .ref h0)]) hx hb dX0_placeThoseReady_53 hl (k := 1) rfl (by decide) (by decide) rfl (fun ls hl => ?_)
  refine lv_goto (tgt := 2) hx hb dX0_placeThoseReady_56 (by decide) ?_
  refine lv_iload_n hx hb dX0_placeThoseReady_2 rfl (lv_at hl 0 rfl) ?_
  refine lv_aload_n hx hb dX0_placeThoseReady_3 rfl (lv_at hl 2 rfl) ?_
  refine va_get (D := (dC, dI)) (ci := 2) (v := .ref h1) (C := RX0) (T := TX0) (N := 4) hx hb hts in_X0 hown hK hP 0 rfl rfl 0 (by decide) (hts _ q_28) (fun _ h9 => h9) rfl dX0_placeThoseReady_4 ?_
  have hM53 := k20_size l hl9 dC dI z h1 h3 H49.size 6 6
  obtain ⟨hF51, hC54⟩ := pc_M hM53 hP hD hK hS hX hT hA [1] [] rfl rfl rfl
  refine va_calli (va_runV (As := []) (rest := [.int 2]) ⟨hx, hb, hml, hown, hts⟩ hM53 (cwV 0 hts (gV q_92 q_77 q_78 q_12 q_75) rfl rfl rfl hV_Jx4a65c_size_8abf5 ⟨Nat.le_of_ble_eq_true rfl, Nat.le_of_ble_eq_true rfl⟩) ⟨pc_blind, va_recv hK hP (ci := 0) (q := (RJx4a65c, TJx4a65c, 3)) (q0 := 1) rfl rfl, fun U hU hW => ⟨rfl, hC54 U hU hW⟩⟩ rfl rfl hl.1 rfl (lv_room (Nat.le_of_ble_eq_true rfl)) dX0_placeThoseReady_7 ⟨(Nat.le_of_ble_eq_true rfl), (Nat.le_of_ble_eq_true rfl)⟩) hS (fun q9 _ h9 => hF51 q9 h9) hF51 (fun r56 u55 t55 H55 L55 ht55 hvm55 hw55 hB55 hz55 hk55 hS => ?_)
  have hP := pq_keep hP hD [1] rfl hk55 hB55.1 ht55
  have hG : s.heap.size + 0 ≤ H55.size := Nat.le_trans hG hz55
  refine W.eq (g2 := F0 m 10 ls [.int 6, .int 2]) (by rw [hw55]) ?_
  refine lv_icmp_ge (tgt := 59) hx hb dX0_placeThoseReady_10 (by decide) (fun cz => absurd cz (by decide)) (fun _ => ?_)
  refine lv_aload_n hx hb dX0_placeThoseReady_13 rfl (lv_at hl 2 rfl) ?_
  refine va_get (D := (dC, dI)) (ci := 2) (v := .ref h1) (C := RX0) (T := TX0) (N := 4) hx hb hts in_X0 hown hK hP 0 rfl rfl 0 (by decide) (hts _ q_28) (fun _ h9 => h9) rfl dX0_placeThoseReady_14 ?_
  refine lv_iload_n hx hb dX0_placeThoseReady_17 rfl (lv_at hl 0 rfl) ?_
  have hM59 := k500_get l hl9 dC dI z h1 h3 h5 h6 h7 h8 h9 h10 H55.size kc0
  obtain ⟨hF57, hC60⟩ := pc_M hM59 hP hD hK hS hX hT hA [1, 2] [0] rfl rfl rfl
  refine va_callr (va_runV (As := [.int 2]) (rest := []) ⟨hx, hb, hml, hown, hts⟩ hM59 (cwV 1 hts (gV q_156 q_157 q_158 q_12 q_155) rfl rfl rfl hV_Jx4a65c_get_915e3 ⟨Nat.le_of_ble_eq_true rfl, Nat.le_of_ble_eq_true rfl⟩) ⟨pc_blind, va_recv hK hP (ci := 0) (q := (RJx4a65c, TJx4a65c, 3)) (q0 := 1) rfl rfl, fun U hU hW => ⟨rfl, hC60 U hU hW⟩⟩ rfl rfl hl.1 rfl (lv_room (Nat.le_of_ble_eq_true rfl)) dX0_placeThoseReady_18 ⟨(Nat.le_of_ble_eq_true rfl), (Nat.le_of_ble_eq_true rfl)⟩) hS (fun q9 _ h9 => hF57 q9 h9) hF57 (fun u61 r62 t61 H61 L61 ht61 hvm61 hw61 hB61 hz61 hk61 hS => ?_)
  obtain ⟨hr61, hB61⟩ := hB61
  have hP := pq_keep hP hD [1, 2] rfl hk61 hB61.1 ht61
  have hG : s.heap.size + 0 ≤ H61.size := Nat.le_trans hG hz61
  refine W.eq (g2 := F0 m 21 ls [.ref h7]) (by rw [hr61]) ?_
  refine va_castE (nm := RX2) hx hb hown (hts _ q_89) (va_recv hK hP (ci := 3) (q := (RX2, TX2, 19)) (q0 := 3) rfl rfl) dX0_placeThoseReady_21 ?_
  refine lv_astore_n (lv' := [(2, .ref h7), (1, .int 2), (0, .ref h0)]) hx hb dX0_placeThoseReady_24 rfl hl (by decide) rfl (fun ls hl => ?_)
  refine lv_aload_n hx hb dX0_placeThoseReady_25 rfl (lv_at hl 0 rfl) ?_
  refine va_get (D := (dC, dI)) (ci := 3) (v := .int 0) (C := RX2) (T := TX2) (N := 19) hx hb hts in_X2 hown hK hP 3 rfl rfl 17 (by decide) (hts _ q_159) (fun _ h9 => h9) rfl dX0_placeThoseReady_26 ?_
  refine lv_if_ne (tgt := 53) hx hb dX0_placeThoseReady_29 (by decide) (fun cz => absurd (by decide) cz) (fun _ => ?_)
  refine lv_aload_n hx hb dX0_placeThoseReady_32 rfl (lv_at hl 0 rfl) ?_
  have hM65 := k181_readsOnlyPlaced l hl9 dC dI z h7 h13 H61.size
  obtain ⟨hF63, hC66⟩ := pc_M hM65 hP hD hK hS hX hT hA [3, 9] [] rfl rfl rfl
  refine va_calli (va_runV (As := []) (rest := []) ⟨hx, hb, hml, hown, hts⟩ hM65 (cwV 0 hts (gV q_162 q_163 q_164 q_91 q_161) rfl rfl rfl hV_X2_readsOnlyPlaced ⟨Nat.le_of_ble_eq_true rfl, Nat.le_of_ble_eq_true rfl⟩) ⟨pc_blind, va_recv hK hP (ci := 3) (q := (RX2, TX2, 19)) (q0 := 3) rfl rfl, fun U hU hW => ⟨rfl, hC66 U hU hW⟩⟩ rfl rfl hl.1 rfl (lv_room (Nat.le_of_ble_eq_true rfl)) dX0_placeThoseReady_33 ⟨(Nat.le_of_ble_eq_true rfl), (Nat.le_of_ble_eq_true rfl)⟩) hS (fun q9 _ h9 => hF63 q9 h9) hF63 (fun r68 u67 t67 H67 L67 ht67 hvm67 hw67 hB67 hz67 hk67 hS => ?_)
  have hP := pq_keep hP hD [3, 9] rfl hk67 hB67.1 ht67
  have hG : s.heap.size + 0 ≤ H67.size := Nat.le_trans hG hz67
  refine W.eq (g2 := F0 m 36 ls [.int 1]) (by rw [hw67]) ?_
  refine lv_if_eq (tgt := 53) hx hb dX0_placeThoseReady_36 (by decide) (fun cz => absurd cz (by decide)) (fun _ => ?_)
  refine lv_aload_n hx hb dX0_placeThoseReady_39 rfl (lv_at hl 0 rfl) ?_
  refine lv_iconst (v := 1) hx hb dX0_placeThoseReady_40 (by decide) ?_
  refine va_put (D := (dC, dI)) (ci := 3) (v := .int 1) (ty := .boolean) (C := RX2) (T := TX2) (N := 19) hx hb hts in_X2 tyX2 tyX2_ok nmX2 hown hK hP hD (va_Sre hS) 3 rfl rfl 17 (by decide) (hts _ q_159) (fun _ h9 => h9) rfl (by decide +kernel) rfl rfl (Nat.le_of_ble_eq_true rfl) dX0_placeThoseReady_41 (fun H69 _ hP hD hS' => ?_)
  have hG : s.heap.size + 0 ≤ H69.size := Nat.le_trans hG hS'.1
  have hS := va_Str hS hS'
  have hP : va_P (dC, dI) xCl [(h0, ce7 h1 o0 o1 h2), (h1, ce259 h3), (h3, ce258 kc0 h5 h6 h7 h8 h9 h10), (h7, ce115 (z.2.1 0) h13 h7), (h8, ce144 (z.2.1 0) h14 h8), (h9, ce198 (z.2.1 0) h15 h9), (h10, ce256 (z.2.1 0) h16 h10), (h11, ce3 z.1), (h12, ce3 z.1), (h13, ce3 z.1), (h14, ce3 z.1), (h15, ce3 z.1), (h16, ce3 z.1), (h5, ce38 (z.2.1 0) h11 h5), (h2, ce274 h4), (h6, ce77 (z.2.1 0) h12 h6), (h4, ce275 kc1 h5 h6)] H69 := hP
  have hD := vd_as hP hD rfl
  refine lv_aload_n hx hb dX0_placeThoseReady_44 rfl (lv_at hl 2 rfl) ?_
  refine va_get (D := (dC, dI)) (ci := 2) (v := .ref h2) (C := RX0) (T := TX0) (N := 4) hx hb hts in_X0 hown hK hP 0 rfl rfl 3 (by decide) (hts _ q_31) (fun _ h9 => h9) rfl dX0_placeThoseReady_45 ?_
  refine lv_aload_n hx hb dX0_placeThoseReady_48 rfl (lv_at hl 0 rfl) ?_
  have hM72 := k518_add l hl9 dC dI z h2 h7 h4 h13 h5 h6 H69.size kc1
  obtain ⟨hF70, hC73⟩ := pc_M hM72 hP hD hK hS hX hT hA [14, 3, 16] [1] rfl rfl rfl
  refine va_calli (va_runV (As := [.ref h7]) (rest := []) ⟨hx, hb, hml, hown, hts⟩ hM72 (cwV 1 hts (gV q_127 q_128 q_129 q_12 q_126) rfl rfl rfl hV_Jx4a65c_add_9ea2d ⟨Nat.le_of_ble_eq_true rfl, Nat.le_of_ble_eq_true rfl⟩) ⟨pc_blind, va_recv hK hP (ci := 0) (q := (RJx4a65c, TJx4a65c, 3)) (q0 := 14) rfl rfl, fun U hU hW => ⟨rfl, hC73 U hU hW⟩⟩ rfl rfl hl.1 rfl (lv_room (Nat.le_of_ble_eq_true rfl)) dX0_placeThoseReady_49 ⟨(Nat.le_of_ble_eq_true rfl), (Nat.le_of_ble_eq_true rfl)⟩) hS (fun q9 _ h9 => hF70 q9 h9) hF70 (fun r75 u74 t74 H74 L74 ht74 hvm74 hw74 hB74 hz74 hk74 hS => ?_)
  obtain ⟨hP, hD, hK⟩ := pq_jn (wz := [(h0, ce7 h1 o0 o1 h2), (h1, ce259 h3), (h3, ce258 kc0 h5 h6 h7 h8 h9 h10), (h8, ce144 (z.2.1 0) h14 h8), (h9, ce198 (z.2.1 0) h15 h9), (h10, ce256 (z.2.1 0) h16 h10), (h11, ce3 z.1), (h12, ce3 z.1), (h13, ce3 z.1), (h14, ce3 z.1), (h15, ce3 z.1), (h16, ce3 z.1), (h5, ce38 (z.2.1 0) h11 h5), (h6, ce77 (z.2.1 0) h12 h6), (h2, ce278 h4), (h7, ce115 (z.2.1 0) h13 h7), (h4, ce279 kc1 h5 h6 h7)]) (tz := [(kc0, .object "java/lang/Object"), (kc1, .object "java/lang/Object")]) hP hD hK [14, 3, 16] [0] rfl hk74 hF70 hB74.1 ht74 hvm74 rfl rfl
  have hG : s.heap.size + 0 ≤ H74.size := Nat.le_trans hG hz74
  refine W.eq (g2 := F0 m 52 ls [.int 1]) (by rw [hw74]) ?_
  refine lv_pop hx hb dX0_placeThoseReady_52 rfl ?_
  refine lv_iinc (v := 3) (lv' := [(1, .int 3), (2, .ref h7), (0, .ref h0)]) hx hb dX0_placeThoseReady_53 hl (k := 1) rfl (by decide) (by decide) rfl (fun ls hl => ?_)
  refine lv_goto (tgt := 2) hx hb dX0_placeThoseReady_56 (by decide) ?_
  refine lv_iload_n hx hb dX0_placeThoseReady_2 rfl (lv_at hl 0 rfl) ?_
  refine lv_aload_n hx hb dX0_placeThoseReady_3 rfl (lv_at hl 2 rfl) ?_
  refine va_get (D := (dC, dI)) (ci := 2) (v := .ref h1) (C := RX0) (T := TX0) (N := 4) hx hb hts in_X0 hown hK hP 0 rfl rfl 0 (by decide) (hts _ q_28) (fun _ h9 => h9) rfl dX0_placeThoseReady_4 ?_
  have hM78 := k20_size l hl9 dC dI z h1 h3 H74.size 6 6
  obtain ⟨hF76, hC79⟩ := pc_M hM78 hP hD hK hS hX hT hA [1] [] rfl rfl rfl
  refine va_calli (va_runV (As := []) (rest := [.int 3]) ⟨hx, hb, hml, hown, hts⟩ hM78 (cwV 0 hts (gV q_92 q_77 q_78 q_12 q_75) rfl rfl rfl hV_Jx4a65c_size_8abf5 ⟨Nat.le_of_ble_eq_true rfl, Nat.le_of_ble_eq_true rfl⟩) ⟨pc_blind, va_recv hK hP (ci := 0) (q := (RJx4a65c, TJx4a65c, 3)) (q0 := 1) rfl rfl, fun U hU hW => ⟨rfl, hC79 U hU hW⟩⟩ rfl rfl hl.1 rfl (lv_room (Nat.le_of_ble_eq_true rfl)) dX0_placeThoseReady_7 ⟨(Nat.le_of_ble_eq_true rfl), (Nat.le_of_ble_eq_true rfl)⟩) hS (fun q9 _ h9 => hF76 q9 h9) hF76 (fun r81 u80 t80 H80 L80 ht80 hvm80 hw80 hB80 hz80 hk80 hS => ?_)
  have hP := pq_keep hP hD [1] rfl hk80 hB80.1 ht80
  have hG : s.heap.size + 0 ≤ H80.size := Nat.le_trans hG hz80
  refine W.eq (g2 := F0 m 10 ls [.int 6, .int 3]) (by rw [hw80]) ?_
  refine lv_icmp_ge (tgt := 59) hx hb dX0_placeThoseReady_10 (by decide) (fun cz => absurd cz (by decide)) (fun _ => ?_)
  refine lv_aload_n hx hb dX0_placeThoseReady_13 rfl (lv_at hl 2 rfl) ?_
  refine va_get (D := (dC, dI)) (ci := 2) (v := .ref h1) (C := RX0) (T := TX0) (N := 4) hx hb hts in_X0 hown hK hP 0 rfl rfl 0 (by decide) (hts _ q_28) (fun _ h9 => h9) rfl dX0_placeThoseReady_14 ?_
  refine lv_iload_n hx hb dX0_placeThoseReady_17 rfl (lv_at hl 0 rfl) ?_
  have hM84 := k504_get l hl9 dC dI z h1 h3 h5 h6 h7 h8 h9 h10 H80.size kc0
  obtain ⟨hF82, hC85⟩ := pc_M hM84 hP hD hK hS hX hT hA [1, 2] [0] rfl rfl rfl
  refine va_callr (va_runV (As := [.int 3]) (rest := []) ⟨hx, hb, hml, hown, hts⟩ hM84 (cwV 1 hts (gV q_156 q_157 q_158 q_12 q_155) rfl rfl rfl hV_Jx4a65c_get_915e3 ⟨Nat.le_of_ble_eq_true rfl, Nat.le_of_ble_eq_true rfl⟩) ⟨pc_blind, va_recv hK hP (ci := 0) (q := (RJx4a65c, TJx4a65c, 3)) (q0 := 1) rfl rfl, fun U hU hW => ⟨rfl, hC85 U hU hW⟩⟩ rfl rfl hl.1 rfl (lv_room (Nat.le_of_ble_eq_true rfl)) dX0_placeThoseReady_18 ⟨(Nat.le_of_ble_eq_true rfl), (Nat.le_of_ble_eq_true rfl)⟩) hS (fun q9 _ h9 => hF82 q9 h9) hF82 (fun u86 r87 t86 H86 L86 ht86 hvm86 hw86 hB86 hz86 hk86 hS => ?_)
  obtain ⟨hr86, hB86⟩ := hB86
  have hP := pq_keep hP hD [1, 2] rfl hk86 hB86.1 ht86
  have hG : s.heap.size + 0 ≤ H86.size := Nat.le_trans hG hz86
  refine W.eq (g2 := F0 m 21 ls [.ref h8]) (by rw [hr86]) ?_
  refine va_castE (nm := RX2) hx hb hown (hts _ q_89) (va_recv hK hP (ci := 3) (q := (RX2, TX2, 19)) (q0 := 3) rfl rfl) dX0_placeThoseReady_21 ?_
  refine lv_astore_n (lv' := [(2, .ref h8), (1, .int 3), (0, .ref h0)]) hx hb dX0_placeThoseReady_24 rfl hl (by decide) rfl (fun ls hl => ?_)
  refine lv_aload_n hx hb dX0_placeThoseReady_25 rfl (lv_at hl 0 rfl) ?_
  refine va_get (D := (dC, dI)) (ci := 3) (v := .int 0) (C := RX2) (T := TX2) (N := 19) hx hb hts in_X2 hown hK hP 3 rfl rfl 17 (by decide) (hts _ q_159) (fun _ h9 => h9) rfl dX0_placeThoseReady_26 ?_
  refine lv_if_ne (tgt := 53) hx hb dX0_placeThoseReady_29 (by decide) (fun cz => absurd (by decide) cz) (fun _ => ?_)
  refine lv_aload_n hx hb dX0_placeThoseReady_32 rfl (lv_at hl 0 rfl) ?_
  have hM90 := k279_readsOnlyPlaced l hl9 dC dI z h8 h14 H86.size
  obtain ⟨hF88, hC91⟩ := pc_M hM90 hP hD hK hS hX hT hA [3, 9] [] rfl rfl rfl
  refine va_calli (va_runV (As := []) (rest := []) ⟨hx, hb, hml, hown, hts⟩ hM90 (cwV 0 hts (gV q_162 q_163 q_164 q_91 q_161) rfl rfl rfl hV_X2_readsOnlyPlaced ⟨Nat.le_of_ble_eq_true rfl, Nat.le_of_ble_eq_true rfl⟩) ⟨pc_blind, va_recv hK hP (ci := 3) (q := (RX2, TX2, 19)) (q0 := 3) rfl rfl, fun U hU hW => ⟨rfl, hC91 U hU hW⟩⟩ rfl rfl hl.1 rfl (lv_room (Nat.le_of_ble_eq_true rfl)) dX0_placeThoseReady_33 ⟨(Nat.le_of_ble_eq_true rfl), (Nat.le_of_ble_eq_true rfl)⟩) hS (fun q9 _ h9 => hF88 q9 h9) hF88 (fun r93 u92 t92 H92 L92 ht92 hvm92 hw92 hB92 hz92 hk92 hS => ?_)
  have hP := pq_keep hP hD [3, 9] rfl hk92 hB92.1 ht92
  have hG : s.heap.size + 0 ≤ H92.size := Nat.le_trans hG hz92
  refine W.eq (g2 := F0 m 36 ls [.int 1]) (by rw [hw92]) ?_
  refine lv_if_eq (tgt := 53) hx hb dX0_placeThoseReady_36 (by decide) (fun cz => absurd cz (by decide)) (fun _ => ?_)
  refine lv_aload_n hx hb dX0_placeThoseReady_39 rfl (lv_at hl 0 rfl) ?_
  refine lv_iconst (v := 1) hx hb dX0_placeThoseReady_40 (by decide) ?_
  refine va_put (D := (dC, dI)) (ci := 3) (v := .int 1) (ty := .boolean) (C := RX2) (T := TX2) (N := 19) hx hb hts in_X2 tyX2 tyX2_ok nmX2 hown hK hP hD (va_Sre hS) 3 rfl rfl 17 (by decide) (hts _ q_159) (fun _ h9 => h9) rfl (by decide +kernel) rfl rfl (Nat.le_of_ble_eq_true rfl) dX0_placeThoseReady_41 (fun H94 _ hP hD hS' => ?_)
  have hG : s.heap.size + 0 ≤ H94.size := Nat.le_trans hG hS'.1
  have hS := va_Str hS hS'
  have hP : va_P (dC, dI) xCl [(h0, ce7 h1 o0 o1 h2), (h1, ce259 h3), (h3, ce258 kc0 h5 h6 h7 h8 h9 h10), (h8, ce165 (z.2.1 0) h14 h8), (h9, ce198 (z.2.1 0) h15 h9), (h10, ce256 (z.2.1 0) h16 h10), (h11, ce3 z.1), (h12, ce3 z.1), (h13, ce3 z.1), (h14, ce3 z.1), (h15, ce3 z.1), (h16, ce3 z.1), (h5, ce38 (z.2.1 0) h11 h5), (h6, ce77 (z.2.1 0) h12 h6), (h2, ce278 h4), (h7, ce115 (z.2.1 0) h13 h7), (h4, ce279 kc1 h5 h6 h7)] H94 := hP
  have hD := vd_as hP hD rfl
  refine lv_aload_n hx hb dX0_placeThoseReady_44 rfl (lv_at hl 2 rfl) ?_
  refine va_get (D := (dC, dI)) (ci := 2) (v := .ref h2) (C := RX0) (T := TX0) (N := 4) hx hb hts in_X0 hown hK hP 0 rfl rfl 3 (by decide) (hts _ q_31) (fun _ h9 => h9) rfl dX0_placeThoseReady_45 ?_
  refine lv_aload_n hx hb dX0_placeThoseReady_48 rfl (lv_at hl 0 rfl) ?_
  have hM97 := k520_add l hl9 dC dI z h2 h8 h4 h14 h5 h6 h7 H94.size kc1
  obtain ⟨hF95, hC98⟩ := pc_M hM97 hP hD hK hS hX hT hA [14, 3, 16] [1] rfl rfl rfl
  refine va_calli (va_runV (As := [.ref h8]) (rest := []) ⟨hx, hb, hml, hown, hts⟩ hM97 (cwV 1 hts (gV q_127 q_128 q_129 q_12 q_126) rfl rfl rfl hV_Jx4a65c_add_9ea2d ⟨Nat.le_of_ble_eq_true rfl, Nat.le_of_ble_eq_true rfl⟩) ⟨pc_blind, va_recv hK hP (ci := 0) (q := (RJx4a65c, TJx4a65c, 3)) (q0 := 14) rfl rfl, fun U hU hW => ⟨rfl, hC98 U hU hW⟩⟩ rfl rfl hl.1 rfl (lv_room (Nat.le_of_ble_eq_true rfl)) dX0_placeThoseReady_49 ⟨(Nat.le_of_ble_eq_true rfl), (Nat.le_of_ble_eq_true rfl)⟩) hS (fun q9 _ h9 => hF95 q9 h9) hF95 (fun r100 u99 t99 H99 L99 ht99 hvm99 hw99 hB99 hz99 hk99 hS => ?_)
  obtain ⟨hP, hD, hK⟩ := pq_jn (wz := [(h0, ce7 h1 o0 o1 h2), (h1, ce259 h3), (h3, ce258 kc0 h5 h6 h7 h8 h9 h10), (h9, ce198 (z.2.1 0) h15 h9), (h10, ce256 (z.2.1 0) h16 h10), (h11, ce3 z.1), (h12, ce3 z.1), (h13, ce3 z.1), (h14, ce3 z.1), (h15, ce3 z.1), (h16, ce3 z.1), (h5, ce38 (z.2.1 0) h11 h5), (h6, ce77 (z.2.1 0) h12 h6), (h7, ce115 (z.2.1 0) h13 h7), (h2, ce282 h4), (h8, ce165 (z.2.1 0) h14 h8), (h4, ce283 kc1 h5 h6 h7 h8)]) (tz := [(kc0, .object "java/lang/Object"), (kc1, .object "java/lang/Object")]) hP hD hK [14, 3, 16] [0] rfl hk99 hF95 hB99.1 ht99 hvm99 rfl rfl
  have hG : s.heap.size + 0 ≤ H99.size := Nat.le_trans hG hz99
  refine W.eq (g2 := F0 m 52 ls [.int 1]) (by rw [hw99]) ?_
  refine lv_pop hx hb dX0_placeThoseReady_52 rfl ?_
  refine lv_iinc (v := 4) (lv' := [(1, .int 4), (2, .ref h8), (0, .ref h0)]) hx hb dX0_placeThoseReady_53 hl (k := 1) rfl (by decide) (by decide) rfl (fun ls hl => ?_)
  refine lv_goto (tgt := 2) hx hb dX0_placeThoseReady_56 (by decide) ?_
  refine lv_iload_n hx hb dX0_placeThoseReady_2 rfl (lv_at hl 0 rfl) ?_
  refine lv_aload_n hx hb dX0_placeThoseReady_3 rfl (lv_at hl 2 rfl) ?_
  refine va_get (D := (dC, dI)) (ci := 2) (v := .ref h1) (C := RX0) (T := TX0) (N := 4) hx hb hts in_X0 hown hK hP 0 rfl rfl 0 (by decide) (hts _ q_28) (fun _ h9 => h9) rfl dX0_placeThoseReady_4 ?_
  have hM103 := k20_size l hl9 dC dI z h1 h3 H99.size 6 6
  obtain ⟨hF101, hC104⟩ := pc_M hM103 hP hD hK hS hX hT hA [1] [] rfl rfl rfl
  refine va_calli (va_runV (As := []) (rest := [.int 4]) ⟨hx, hb, hml, hown, hts⟩ hM103 (cwV 0 hts (gV q_92 q_77 q_78 q_12 q_75) rfl rfl rfl hV_Jx4a65c_size_8abf5 ⟨Nat.le_of_ble_eq_true rfl, Nat.le_of_ble_eq_true rfl⟩) ⟨pc_blind, va_recv hK hP (ci := 0) (q := (RJx4a65c, TJx4a65c, 3)) (q0 := 1) rfl rfl, fun U hU hW => ⟨rfl, hC104 U hU hW⟩⟩ rfl rfl hl.1 rfl (lv_room (Nat.le_of_ble_eq_true rfl)) dX0_placeThoseReady_7 ⟨(Nat.le_of_ble_eq_true rfl), (Nat.le_of_ble_eq_true rfl)⟩) hS (fun q9 _ h9 => hF101 q9 h9) hF101 (fun r106 u105 t105 H105 L105 ht105 hvm105 hw105 hB105 hz105 hk105 hS => ?_)
  have hP := pq_keep hP hD [1] rfl hk105 hB105.1 ht105
  have hG : s.heap.size + 0 ≤ H105.size := Nat.le_trans hG hz105
  refine W.eq (g2 := F0 m 10 ls [.int 6, .int 4]) (by rw [hw105]) ?_
  refine lv_icmp_ge (tgt := 59) hx hb dX0_placeThoseReady_10 (by decide) (fun cz => absurd cz (by decide)) (fun _ => ?_)
  refine lv_aload_n hx hb dX0_placeThoseReady_13 rfl (lv_at hl 2 rfl) ?_
  refine va_get (D := (dC, dI)) (ci := 2) (v := .ref h1) (C := RX0) (T := TX0) (N := 4) hx hb hts in_X0 hown hK hP 0 rfl rfl 0 (by decide) (hts _ q_28) (fun _ h9 => h9) rfl dX0_placeThoseReady_14 ?_
  refine lv_iload_n hx hb dX0_placeThoseReady_17 rfl (lv_at hl 0 rfl) ?_
  have hM109 := k508_get l hl9 dC dI z h1 h3 h5 h6 h7 h8 h9 h10 H105.size kc0
  obtain ⟨hF107, hC110⟩ := pc_M hM109 hP hD hK hS hX hT hA [1, 2] [0] rfl rfl rfl
  refine va_callr (va_runV (As := [.int 4]) (rest := []) ⟨hx, hb, hml, hown, hts⟩ hM109 (cwV 1 hts (gV q_156 q_157 q_158 q_12 q_155) rfl rfl rfl hV_Jx4a65c_get_915e3 ⟨Nat.le_of_ble_eq_true rfl, Nat.le_of_ble_eq_true rfl⟩) ⟨pc_blind, va_recv hK hP (ci := 0) (q := (RJx4a65c, TJx4a65c, 3)) (q0 := 1) rfl rfl, fun U hU hW => ⟨rfl, hC110 U hU hW⟩⟩ rfl rfl hl.1 rfl (lv_room (Nat.le_of_ble_eq_true rfl)) dX0_placeThoseReady_18 ⟨(Nat.le_of_ble_eq_true rfl), (Nat.le_of_ble_eq_true rfl)⟩) hS (fun q9 _ h9 => hF107 q9 h9) hF107 (fun u111 r112 t111 H111 L111 ht111 hvm111 hw111 hB111 hz111 hk111 hS => ?_)
  obtain ⟨hr111, hB111⟩ := hB111
  have hP := pq_keep hP hD [1, 2] rfl hk111 hB111.1 ht111
  have hG : s.heap.size + 0 ≤ H111.size := Nat.le_trans hG hz111
  refine W.eq (g2 := F0 m 21 ls [.ref h9]) (by rw [hr111]) ?_
  refine va_castE (nm := RX2) hx hb hown (hts _ q_89) (va_recv hK hP (ci := 3) (q := (RX2, TX2, 19)) (q0 := 3) rfl rfl) dX0_placeThoseReady_21 ?_
  refine lv_astore_n (lv' := [(2, .ref h9), (1, .int 4), (0, .ref h0)]) hx hb dX0_placeThoseReady_24 rfl hl (by decide) rfl (fun ls hl => ?_)
  refine lv_aload_n hx hb dX0_placeThoseReady_25 rfl (lv_at hl 0 rfl) ?_
  refine va_get (D := (dC, dI)) (ci := 3) (v := .int 0) (C := RX2) (T := TX2) (N := 19) hx hb hts in_X2 hown hK hP 3 rfl rfl 17 (by decide) (hts _ q_159) (fun _ h9 => h9) rfl dX0_placeThoseReady_26 ?_
  refine lv_if_ne (tgt := 53) hx hb dX0_placeThoseReady_29 (by decide) (fun cz => absurd (by decide) cz) (fun _ => ?_)
  refine lv_aload_n hx hb dX0_placeThoseReady_32 rfl (lv_at hl 0 rfl) ?_
  have hM115 := k393_readsOnlyPlaced l hl9 dC dI z h9 h15 H111.size
  obtain ⟨hF113, hC116⟩ := pc_M hM115 hP hD hK hS hX hT hA [3, 9] [] rfl rfl rfl
  refine va_calli (va_runV (As := []) (rest := []) ⟨hx, hb, hml, hown, hts⟩ hM115 (cwV 0 hts (gV q_162 q_163 q_164 q_91 q_161) rfl rfl rfl hV_X2_readsOnlyPlaced ⟨Nat.le_of_ble_eq_true rfl, Nat.le_of_ble_eq_true rfl⟩) ⟨pc_blind, va_recv hK hP (ci := 3) (q := (RX2, TX2, 19)) (q0 := 3) rfl rfl, fun U hU hW => ⟨rfl, hC116 U hU hW⟩⟩ rfl rfl hl.1 rfl (lv_room (Nat.le_of_ble_eq_true rfl)) dX0_placeThoseReady_33 ⟨(Nat.le_of_ble_eq_true rfl), (Nat.le_of_ble_eq_true rfl)⟩) hS (fun q9 _ h9 => hF113 q9 h9) hF113 (fun r118 u117 t117 H117 L117 ht117 hvm117 hw117 hB117 hz117 hk117 hS => ?_)
  have hP := pq_keep hP hD [3, 9] rfl hk117 hB117.1 ht117
  have hG : s.heap.size + 0 ≤ H117.size := Nat.le_trans hG hz117
  refine W.eq (g2 := F0 m 36 ls [.int 1]) (by rw [hw117]) ?_
  refine lv_if_eq (tgt := 53) hx hb dX0_placeThoseReady_36 (by decide) (fun cz => absurd cz (by decide)) (fun _ => ?_)
  refine lv_aload_n hx hb dX0_placeThoseReady_39 rfl (lv_at hl 0 rfl) ?_
  refine lv_iconst (v := 1) hx hb dX0_placeThoseReady_40 (by decide) ?_
  refine va_put (D := (dC, dI)) (ci := 3) (v := .int 1) (ty := .boolean) (C := RX2) (T := TX2) (N := 19) hx hb hts in_X2 tyX2 tyX2_ok nmX2 hown hK hP hD (va_Sre hS) 3 rfl rfl 17 (by decide) (hts _ q_159) (fun _ h9 => h9) rfl (by decide +kernel) rfl rfl (Nat.le_of_ble_eq_true rfl) dX0_placeThoseReady_41 (fun H119 _ hP hD hS' => ?_)
  have hG : s.heap.size + 0 ≤ H119.size := Nat.le_trans hG hS'.1
  have hS := va_Str hS hS'
  have hP : va_P (dC, dI) xCl [(h0, ce7 h1 o0 o1 h2), (h1, ce259 h3), (h3, ce258 kc0 h5 h6 h7 h8 h9 h10), (h9, ce224 (z.2.1 0) h15 h9), (h10, ce256 (z.2.1 0) h16 h10), (h11, ce3 z.1), (h12, ce3 z.1), (h13, ce3 z.1), (h14, ce3 z.1), (h15, ce3 z.1), (h16, ce3 z.1), (h5, ce38 (z.2.1 0) h11 h5), (h6, ce77 (z.2.1 0) h12 h6), (h7, ce115 (z.2.1 0) h13 h7), (h2, ce282 h4), (h8, ce165 (z.2.1 0) h14 h8), (h4, ce283 kc1 h5 h6 h7 h8)] H119 := hP
  have hD := vd_as hP hD rfl
  refine lv_aload_n hx hb dX0_placeThoseReady_44 rfl (lv_at hl 2 rfl) ?_
  refine va_get (D := (dC, dI)) (ci := 2) (v := .ref h2) (C := RX0) (T := TX0) (N := 4) hx hb hts in_X0 hown hK hP 0 rfl rfl 3 (by decide) (hts _ q_31) (fun _ h9 => h9) rfl dX0_placeThoseReady_45 ?_
  refine lv_aload_n hx hb dX0_placeThoseReady_48 rfl (lv_at hl 0 rfl) ?_
  have hM122 := k522_add l hl9 dC dI z h2 h9 h4 h15 h5 h6 h7 h8 H119.size kc1
  obtain ⟨hF120, hC123⟩ := pc_M hM122 hP hD hK hS hX hT hA [14, 3, 16] [1] rfl rfl rfl
  refine va_calli (va_runV (As := [.ref h9]) (rest := []) ⟨hx, hb, hml, hown, hts⟩ hM122 (cwV 1 hts (gV q_127 q_128 q_129 q_12 q_126) rfl rfl rfl hV_Jx4a65c_add_9ea2d ⟨Nat.le_of_ble_eq_true rfl, Nat.le_of_ble_eq_true rfl⟩) ⟨pc_blind, va_recv hK hP (ci := 0) (q := (RJx4a65c, TJx4a65c, 3)) (q0 := 14) rfl rfl, fun U hU hW => ⟨rfl, hC123 U hU hW⟩⟩ rfl rfl hl.1 rfl (lv_room (Nat.le_of_ble_eq_true rfl)) dX0_placeThoseReady_49 ⟨(Nat.le_of_ble_eq_true rfl), (Nat.le_of_ble_eq_true rfl)⟩) hS (fun q9 _ h9 => hF120 q9 h9) hF120 (fun r125 u124 t124 H124 L124 ht124 hvm124 hw124 hB124 hz124 hk124 hS => ?_)
  obtain ⟨hP, hD, hK⟩ := pq_jn (wz := [(h0, ce7 h1 o0 o1 h2), (h1, ce259 h3), (h3, ce258 kc0 h5 h6 h7 h8 h9 h10), (h10, ce256 (z.2.1 0) h16 h10), (h11, ce3 z.1), (h12, ce3 z.1), (h13, ce3 z.1), (h14, ce3 z.1), (h15, ce3 z.1), (h16, ce3 z.1), (h5, ce38 (z.2.1 0) h11 h5), (h6, ce77 (z.2.1 0) h12 h6), (h7, ce115 (z.2.1 0) h13 h7), (h8, ce165 (z.2.1 0) h14 h8), (h2, ce286 h4), (h9, ce224 (z.2.1 0) h15 h9), (h4, ce200 kc1 h5 h6 h7 h8 h9)]) (tz := [(kc0, .object "java/lang/Object"), (kc1, .object "java/lang/Object")]) hP hD hK [14, 3, 16] [0] rfl hk124 hF120 hB124.1 ht124 hvm124 rfl rfl
  have hG : s.heap.size + 0 ≤ H124.size := Nat.le_trans hG hz124
  refine W.eq (g2 := F0 m 52 ls [.int 1]) (by rw [hw124]) ?_
  refine lv_pop hx hb dX0_placeThoseReady_52 rfl ?_
  refine lv_iinc (v := 5) (lv' := [(1, .int 5), (2, .ref h9), (0, .ref h0)]) hx hb dX0_placeThoseReady_53 hl (k := 1) rfl (by decide) (by decide) rfl (fun ls hl => ?_)
  refine lv_goto (tgt := 2) hx hb dX0_placeThoseReady_56 (by decide) ?_
  refine lv_iload_n hx hb dX0_placeThoseReady_2 rfl (lv_at hl 0 rfl) ?_
  refine lv_aload_n hx hb dX0_placeThoseReady_3 rfl (lv_at hl 2 rfl) ?_
  refine va_get (D := (dC, dI)) (ci := 2) (v := .ref h1) (C := RX0) (T := TX0) (N := 4) hx hb hts in_X0 hown hK hP 0 rfl rfl 0 (by decide) (hts _ q_28) (fun _ h9 => h9) rfl dX0_placeThoseReady_4 ?_
  have hM128 := k20_size l hl9 dC dI z h1 h3 H124.size 6 6
  obtain ⟨hF126, hC129⟩ := pc_M hM128 hP hD hK hS hX hT hA [1] [] rfl rfl rfl
  refine va_calli (va_runV (As := []) (rest := [.int 5]) ⟨hx, hb, hml, hown, hts⟩ hM128 (cwV 0 hts (gV q_92 q_77 q_78 q_12 q_75) rfl rfl rfl hV_Jx4a65c_size_8abf5 ⟨Nat.le_of_ble_eq_true rfl, Nat.le_of_ble_eq_true rfl⟩) ⟨pc_blind, va_recv hK hP (ci := 0) (q := (RJx4a65c, TJx4a65c, 3)) (q0 := 1) rfl rfl, fun U hU hW => ⟨rfl, hC129 U hU hW⟩⟩ rfl rfl hl.1 rfl (lv_room (Nat.le_of_ble_eq_true rfl)) dX0_placeThoseReady_7 ⟨(Nat.le_of_ble_eq_true rfl), (Nat.le_of_ble_eq_true rfl)⟩) hS (fun q9 _ h9 => hF126 q9 h9) hF126 (fun r131 u130 t130 H130 L130 ht130 hvm130 hw130 hB130 hz130 hk130 hS => ?_)
  have hP := pq_keep hP hD [1] rfl hk130 hB130.1 ht130
  have hG : s.heap.size + 0 ≤ H130.size := Nat.le_trans hG hz130
  refine W.eq (g2 := F0 m 10 ls [.int 6, .int 5]) (by rw [hw130]) ?_
  refine lv_icmp_ge (tgt := 59) hx hb dX0_placeThoseReady_10 (by decide) (fun cz => absurd cz (by decide)) (fun _ => ?_)
  refine lv_aload_n hx hb dX0_placeThoseReady_13 rfl (lv_at hl 2 rfl) ?_
  refine va_get (D := (dC, dI)) (ci := 2) (v := .ref h1) (C := RX0) (T := TX0) (N := 4) hx hb hts in_X0 hown hK hP 0 rfl rfl 0 (by decide) (hts _ q_28) (fun _ h9 => h9) rfl dX0_placeThoseReady_14 ?_
  refine lv_iload_n hx hb dX0_placeThoseReady_17 rfl (lv_at hl 0 rfl) ?_
  have hM134 := k512_get l hl9 dC dI z h1 h3 h5 h6 h7 h8 h9 h10 H130.size kc0
  obtain ⟨hF132, hC135⟩ := pc_M hM134 hP hD hK hS hX hT hA [1, 2] [0] rfl rfl rfl
  refine va_callr (va_runV (As := [.int 5]) (rest := []) ⟨hx, hb, hml, hown, hts⟩ hM134 (cwV 1 hts (gV q_156 q_157 q_158 q_12 q_155) rfl rfl rfl hV_Jx4a65c_get_915e3 ⟨Nat.le_of_ble_eq_true rfl, Nat.le_of_ble_eq_true rfl⟩) ⟨pc_blind, va_recv hK hP (ci := 0) (q := (RJx4a65c, TJx4a65c, 3)) (q0 := 1) rfl rfl, fun U hU hW => ⟨rfl, hC135 U hU hW⟩⟩ rfl rfl hl.1 rfl (lv_room (Nat.le_of_ble_eq_true rfl)) dX0_placeThoseReady_18 ⟨(Nat.le_of_ble_eq_true rfl), (Nat.le_of_ble_eq_true rfl)⟩) hS (fun q9 _ h9 => hF132 q9 h9) hF132 (fun u136 r137 t136 H136 L136 ht136 hvm136 hw136 hB136 hz136 hk136 hS => ?_)
  obtain ⟨hr136, hB136⟩ := hB136
  have hP := pq_keep hP hD [1, 2] rfl hk136 hB136.1 ht136
  have hG : s.heap.size + 0 ≤ H136.size := Nat.le_trans hG hz136
  refine W.eq (g2 := F0 m 21 ls [.ref h10]) (by rw [hr136]) ?_
  refine va_castE (nm := RX2) hx hb hown (hts _ q_89) (va_recv hK hP (ci := 3) (q := (RX2, TX2, 19)) (q0 := 3) rfl rfl) dX0_placeThoseReady_21 ?_
  refine lv_astore_n (lv' := [(2, .ref h10), (1, .int 5), (0, .ref h0)]) hx hb dX0_placeThoseReady_24 rfl hl (by decide) rfl (fun ls hl => ?_)
  refine lv_aload_n hx hb dX0_placeThoseReady_25 rfl (lv_at hl 0 rfl) ?_
  refine va_get (D := (dC, dI)) (ci := 3) (v := .int 0) (C := RX2) (T := TX2) (N := 19) hx hb hts in_X2 hown hK hP 3 rfl rfl 17 (by decide) (hts _ q_159) (fun _ h9 => h9) rfl dX0_placeThoseReady_26 ?_
  refine lv_if_ne (tgt := 53) hx hb dX0_placeThoseReady_29 (by decide) (fun cz => absurd (by decide) cz) (fun _ => ?_)
  refine lv_aload_n hx hb dX0_placeThoseReady_32 rfl (lv_at hl 0 rfl) ?_
  have hM140 := k523_readsOnlyPlaced l hl9 dC dI z h10 h16 H136.size
  obtain ⟨hF138, hC141⟩ := pc_M hM140 hP hD hK hS hX hT hA [3, 9] [] rfl rfl rfl
  refine va_calli (va_runV (As := []) (rest := []) ⟨hx, hb, hml, hown, hts⟩ hM140 (cwV 0 hts (gV q_162 q_163 q_164 q_91 q_161) rfl rfl rfl hV_X2_readsOnlyPlaced ⟨Nat.le_of_ble_eq_true rfl, Nat.le_of_ble_eq_true rfl⟩) ⟨pc_blind, va_recv hK hP (ci := 3) (q := (RX2, TX2, 19)) (q0 := 3) rfl rfl, fun U hU hW => ⟨rfl, hC141 U hU hW⟩⟩ rfl rfl hl.1 rfl (lv_room (Nat.le_of_ble_eq_true rfl)) dX0_placeThoseReady_33 ⟨(Nat.le_of_ble_eq_true rfl), (Nat.le_of_ble_eq_true rfl)⟩) hS (fun q9 _ h9 => hF138 q9 h9) hF138 (fun r143 u142 t142 H142 L142 ht142 hvm142 hw142 hB142 hz142 hk142 hS => ?_)
  have hP := pq_keep hP hD [3, 9] rfl hk142 hB142.1 ht142
  have hG : s.heap.size + 0 ≤ H142.size := Nat.le_trans hG hz142
  refine W.eq (g2 := F0 m 36 ls [.int 1]) (by rw [hw142]) ?_
  refine lv_if_eq (tgt := 53) hx hb dX0_placeThoseReady_36 (by decide) (fun cz => absurd cz (by decide)) (fun _ => ?_)
  refine lv_aload_n hx hb dX0_placeThoseReady_39 rfl (lv_at hl 0 rfl) ?_
  refine lv_iconst (v := 1) hx hb dX0_placeThoseReady_40 (by decide) ?_
  refine va_put (D := (dC, dI)) (ci := 3) (v := .int 1) (ty := .boolean) (C := RX2) (T := TX2) (N := 19) hx hb hts in_X2 tyX2 tyX2_ok nmX2 hown hK hP hD (va_Sre hS) 3 rfl rfl 17 (by decide) (hts _ q_159) (fun _ h9 => h9) rfl (by decide +kernel) rfl rfl (Nat.le_of_ble_eq_true rfl) dX0_placeThoseReady_41 (fun H144 _ hP hD hS' => ?_)
  have hG : s.heap.size + 0 ≤ H144.size := Nat.le_trans hG hS'.1
  have hS := va_Str hS hS'
  have hP : va_P (dC, dI) xCl [(h0, ce7 h1 o0 o1 h2), (h1, ce259 h3), (h3, ce258 kc0 h5 h6 h7 h8 h9 h10), (h10, ce287 (z.2.1 0) h16 h10), (h11, ce3 z.1), (h12, ce3 z.1), (h13, ce3 z.1), (h14, ce3 z.1), (h15, ce3 z.1), (h16, ce3 z.1), (h5, ce38 (z.2.1 0) h11 h5), (h6, ce77 (z.2.1 0) h12 h6), (h7, ce115 (z.2.1 0) h13 h7), (h8, ce165 (z.2.1 0) h14 h8), (h2, ce286 h4), (h9, ce224 (z.2.1 0) h15 h9), (h4, ce200 kc1 h5 h6 h7 h8 h9)] H144 := hP
  have hD := vd_as hP hD rfl
  refine lv_aload_n hx hb dX0_placeThoseReady_44 rfl (lv_at hl 2 rfl) ?_
  refine va_get (D := (dC, dI)) (ci := 2) (v := .ref h2) (C := RX0) (T := TX0) (N := 4) hx hb hts in_X0 hown hK hP 0 rfl rfl 3 (by decide) (hts _ q_31) (fun _ h9 => h9) rfl dX0_placeThoseReady_45 ?_
  refine lv_aload_n hx hb dX0_placeThoseReady_48 rfl (lv_at hl 0 rfl) ?_
  have hM147 := k525_add l hl9 dC dI z h2 h10 h4 h16 h5 h6 h7 h8 h9 H144.size kc1
  obtain ⟨hF145, hC148⟩ := pc_M hM147 hP hD hK hS hX hT hA [14, 3, 16] [1] rfl rfl rfl
  refine va_calli (va_runV (As := [.ref h10]) (rest := []) ⟨hx, hb, hml, hown, hts⟩ hM147 (cwV 1 hts (gV q_127 q_128 q_129 q_12 q_126) rfl rfl rfl hV_Jx4a65c_add_9ea2d ⟨Nat.le_of_ble_eq_true rfl, Nat.le_of_ble_eq_true rfl⟩) ⟨pc_blind, va_recv hK hP (ci := 0) (q := (RJx4a65c, TJx4a65c, 3)) (q0 := 14) rfl rfl, fun U hU hW => ⟨rfl, hC148 U hU hW⟩⟩ rfl rfl hl.1 rfl (lv_room (Nat.le_of_ble_eq_true rfl)) dX0_placeThoseReady_49 ⟨(Nat.le_of_ble_eq_true rfl), (Nat.le_of_ble_eq_true rfl)⟩) hS (fun q9 _ h9 => hF145 q9 h9) hF145 (fun r150 u149 t149 H149 L149 ht149 hvm149 hw149 hB149 hz149 hk149 hS => ?_)
  obtain ⟨hP, hD, hK⟩ := pq_jn (wz := [(h0, ce7 h1 o0 o1 h2), (h1, ce259 h3), (h3, ce258 kc0 h5 h6 h7 h8 h9 h10), (h11, ce3 z.1), (h12, ce3 z.1), (h13, ce3 z.1), (h14, ce3 z.1), (h15, ce3 z.1), (h16, ce3 z.1), (h5, ce38 (z.2.1 0) h11 h5), (h6, ce77 (z.2.1 0) h12 h6), (h7, ce115 (z.2.1 0) h13 h7), (h8, ce165 (z.2.1 0) h14 h8), (h9, ce224 (z.2.1 0) h15 h9), (h2, ce289 h4), (h10, ce287 (z.2.1 0) h16 h10), (h4, ce258 kc1 h5 h6 h7 h8 h9 h10)]) (tz := [(kc0, .object "java/lang/Object"), (kc1, .object "java/lang/Object")]) hP hD hK [14, 3, 16] [0] rfl hk149 hF145 hB149.1 ht149 hvm149 rfl rfl
  have hG : s.heap.size + 0 ≤ H149.size := Nat.le_trans hG hz149
  refine W.eq (g2 := F0 m 52 ls [.int 1]) (by rw [hw149]) ?_
  refine lv_pop hx hb dX0_placeThoseReady_52 rfl ?_
  refine lv_iinc (v := 6) (lv' := [(1, .int 6), (2, .ref h10), (0, .ref h0)]) hx hb dX0_placeThoseReady_53 hl (k := 1) rfl (by decide) (by decide) rfl (fun ls hl => ?_)
  refine lv_goto (tgt := 2) hx hb dX0_placeThoseReady_56 (by decide) ?_
  refine lv_iload_n hx hb dX0_placeThoseReady_2 rfl (lv_at hl 0 rfl) ?_
  refine lv_aload_n hx hb dX0_placeThoseReady_3 rfl (lv_at hl 2 rfl) ?_
  refine va_get (D := (dC, dI)) (ci := 2) (v := .ref h1) (C := RX0) (T := TX0) (N := 4) hx hb hts in_X0 hown hK hP 0 rfl rfl 0 (by decide) (hts _ q_28) (fun _ h9 => h9) rfl dX0_placeThoseReady_4 ?_
  have hM153 := k20_size l hl9 dC dI z h1 h3 H149.size 6 6
  obtain ⟨hF151, hC154⟩ := pc_M hM153 hP hD hK hS hX hT hA [1] [] rfl rfl rfl
  refine va_calli (va_runV (As := []) (rest := [.int 6]) ⟨hx, hb, hml, hown, hts⟩ hM153 (cwV 0 hts (gV q_92 q_77 q_78 q_12 q_75) rfl rfl rfl hV_Jx4a65c_size_8abf5 ⟨Nat.le_of_ble_eq_true rfl, Nat.le_of_ble_eq_true rfl⟩) ⟨pc_blind, va_recv hK hP (ci := 0) (q := (RJx4a65c, TJx4a65c, 3)) (q0 := 1) rfl rfl, fun U hU hW => ⟨rfl, hC154 U hU hW⟩⟩ rfl rfl hl.1 rfl (lv_room (Nat.le_of_ble_eq_true rfl)) dX0_placeThoseReady_7 ⟨(Nat.le_of_ble_eq_true rfl), (Nat.le_of_ble_eq_true rfl)⟩) hS (fun q9 _ h9 => hF151 q9 h9) hF151 (fun r156 u155 t155 H155 L155 ht155 hvm155 hw155 hB155 hz155 hk155 hS => ?_)
  have hP := pq_keep hP hD [1] rfl hk155 hB155.1 ht155
  have hG : s.heap.size + 0 ≤ H155.size := Nat.le_trans hG hz155
  refine W.eq (g2 := F0 m 10 ls [.int 6, .int 6]) (by rw [hw155]) ?_
  refine lv_icmp_ge (tgt := 59) hx hb dX0_placeThoseReady_10 (by decide) (fun _ => ?_) (fun cz => absurd (by decide) cz)
  exact W.vret hx hb hr (fun t9 ht9 hW9 => ⟨⟨(), rfl, trivial, ⟨pq_mk2 hP hD hK [0, 1, 14, 2, 16, 9, 10, 11, 12, 13, 15, 3, 4, 5, 6, 7, 8] [0, 1] rfl rfl rfl ht9 hW9, by rw [ht9]; exact Nat.le_trans (Nat.add_le_add_left (Nat.le_of_ble_eq_true rfl) _) hG⟩⟩, hS.F ht9⟩) hS.2.2 dX0_placeThoseReady_59

set_option maxHeartbeats 4000000 in
set_option maxRecDepth 100000 in
theorem k527_putInOrder (l : Launch) (hl9 : l.stackTraces = false) (dC : Nat → ClassId) (dI : Nat → Nat → Nat) (z : XZ) (h0 h1 h2 h3 h4 h5 h6 h7 h8 h9 h10 h11 h12 h13 h14 h15 h16 : Nat) (o0 o1 : Nat) (sz : Nat) (kc0 kc1 : ClassId) : Met l yX0_putInOrder (.code yX0_putInOrder cX0_putInOrder 2 none :: wsL_law) ({ frames := 4, cells := 0, slots := 0, locals := 86 }) (va_Pc [.ref h0] (PC (dC, dI) [(h0, ce7 h1 o0 o1 h2), (h1, ce259 h3), (h2, ce226 h4), (h3, ce258 kc0 h5 h6 h7 h8 h9 h10), (h4, ce200 kc1 h5 h6 h7 h8 h9), (h5, ce38 (z.2.1 0) h11 h5), (h6, ce77 (z.2.1 0) h12 h6), (h7, ce115 (z.2.1 0) h13 h7), (h8, ce165 (z.2.1 0) h14 h8), (h9, ce224 (z.2.1 0) h15 h9), (h10, ce256 (z.2.1 0) h16 h10), (h11, ce3 z.1), (h12, ce3 z.1), (h13, ce3 z.1), (h14, ce3 z.1), (h15, ce3 z.1), (h16, ce3 z.1)] [(kc0, .object "java/lang/Object"), (kc1, .object "java/lang/Object")] sz z)) (va_Qv (fun (_ : Unit) => True) (fun (_ : Unit) (t : State) => PG (dC, dI) [(h0, ce7 h1 o0 o1 h2), (h1, ce259 h3), (h2, ce289 h4), (h3, ce258 kc0 h5 h6 h7 h8 h9 h10), (h4, ce258 kc1 h5 h6 h7 h8 h9 h10), (h5, ce38 (z.2.1 0) h11 h5), (h6, ce77 (z.2.1 0) h12 h6), (h7, ce115 (z.2.1 0) h13 h7), (h8, ce165 (z.2.1 0) h14 h8), (h9, ce224 (z.2.1 0) h15 h9), (h10, ce287 (z.2.1 0) h16 h10), (h11, ce3 z.1), (h12, ce3 z.1), (h13, ce3 z.1), (h14, ce3 z.1), (h15, ce3 z.1), (h16, ce3 z.1)] [(kc0, .object "java/lang/Object"), (kc1, .object "java/lang/Object")] (va_A [(h0, ce7 h1 o0 o1 h2), (h1, ce259 h3), (h2, ce226 h4), (h3, ce258 kc0 h5 h6 h7 h8 h9 h10), (h4, ce200 kc1 h5 h6 h7 h8 h9), (h5, ce38 (z.2.1 0) h11 h5), (h6, ce77 (z.2.1 0) h12 h6), (h7, ce115 (z.2.1 0) h13 h7), (h8, ce165 (z.2.1 0) h14 h8), (h9, ce224 (z.2.1 0) h15 h9), (h10, ce256 (z.2.1 0) h16 h10), (h11, ce3 z.1), (h12, ce3 z.1), (h13, ce3 z.1), (h14, ce3 z.1), (h15, ce3 z.1), (h16, ce3 z.1)] sz) sz 0 t) (va_A [(h0, ce7 h1 o0 o1 h2), (h1, ce259 h3), (h2, ce226 h4), (h3, ce258 kc0 h5 h6 h7 h8 h9 h10), (h4, ce200 kc1 h5 h6 h7 h8 h9), (h5, ce38 (z.2.1 0) h11 h5), (h6, ce77 (z.2.1 0) h12 h6), (h7, ce115 (z.2.1 0) h13 h7), (h8, ce165 (z.2.1 0) h14 h8), (h9, ce224 (z.2.1 0) h15 h9), (h10, ce256 (z.2.1 0) h16 h10), (h11, ce3 z.1), (h12, ce3 z.1), (h13, ce3 z.1), (h14, ce3 z.1), (h15, ce3 z.1), (h16, ce3 z.1)] sz)) 0 0 (va_A [(h0, ce7 h1 o0 o1 h2), (h1, ce259 h3), (h2, ce226 h4), (h3, ce258 kc0 h5 h6 h7 h8 h9 h10), (h4, ce200 kc1 h5 h6 h7 h8 h9), (h5, ce38 (z.2.1 0) h11 h5), (h6, ce77 (z.2.1 0) h12 h6), (h7, ce115 (z.2.1 0) h13 h7), (h8, ce165 (z.2.1 0) h14 h8), (h9, ce224 (z.2.1 0) h15 h9), (h10, ce256 (z.2.1 0) h16 h10), (h11, ce3 z.1), (h12, ce3 z.1), (h13, ce3 z.1), (h14, ce3 z.1), (h15, ce3 z.1), (h16, ce3 z.1)] sz) := by
  refine Met.ofW (cc := cX0_putInOrder) (maxL := 2) (ret := none) (by decide) rfl ?_
  intro p e s m args below meth c s₁ B hml hv
  obtain ⟨rfl, hsz, hP, hK, hD0, hX, hT⟩ := hv
  have hx := B.exec
  have hb := B.bytes
  have hr := B.returns
  have hts0 := atoms_spec (ws := .code yX0_putInOrder cX0_putInOrder 2 none :: wsL_law) B.pre
  have hts := xTail hts0
  have hown : s.vm.findClass RX0 = some m.cls := xown B.named rfl
  have hlocks := B.notSynchronized
  subst hsz
  have hD := hD0.self (sz := s.heap.size)
  generalize hAe : va_A [(h0, ce7 h1 o0 o1 h2), (h1, ce259 h3), (h2, ce226 h4), (h3, ce258 kc0 h5 h6 h7 h8 h9 h10), (h4, ce200 kc1 h5 h6 h7 h8 h9), (h5, ce38 (z.2.1 0) h11 h5), (h6, ce77 (z.2.1 0) h12 h6), (h7, ce115 (z.2.1 0) h13 h7), (h8, ce165 (z.2.1 0) h14 h8), (h9, ce224 (z.2.1 0) h15 h9), (h10, ce256 (z.2.1 0) h16 h10), (h11, ce3 z.1), (h12, ce3 z.1), (h13, ce3 z.1), (h14, ce3 z.1), (h15, ce3 z.1), (h16, ce3 z.1)] s.heap.size = A at hD hX ⊢
  have hA : ∀ q : Nat, s.heap.size ≤ q → A q := fun q h => by rw [← hAe]; exact Or.inr h
  have hS : va_S A s.heap s.heap [] := va_S.rf
  have hG : s.heap.size + 0 ≤ s.heap.size := Nat.le_refl _
  have hl := lv_entry ([.ref h0]) (n := 2) (Nat.le_of_ble_eq_true rfl)
  rw [lg_entry_eq]
  generalize (lg_sl ([.ref h0]) ++ List.replicate (2 - (lg_sl ([.ref h0])).length) Slot.unset).toArray = ls at hl ⊢
  have hl : lv_has ls 2 [(0, .ref h0)] := hl
  refine lv_aload_n hx hb dX0_putInOrder_0 rfl (lv_at hl 0 rfl) ?_
  refine va_get (D := (dC, dI)) (ci := 2) (v := .ref h2) (C := RX0) (T := TX0) (N := 4) hx hb hts in_X0 hown hK hP 0 rfl rfl 3 (by decide) (hts _ q_31) (fun _ h9 => h9) rfl dX0_putInOrder_1 ?_
  have hM3 := k488_clear l hl9 dC dI z h2 h4 h5 h6 h7 h8 h9 s.heap.size kc1
  obtain ⟨hF1, hC4⟩ := pc_M hM3 hP hD hK hS hX hT hA [2, 4] [1] rfl rfl rfl
  refine va_callv (va_runV (As := []) (rest := []) ⟨hx, hb, hml, hown, hts⟩ hM3 (cwV 0 hts (gV q_140 q_141 q_142 q_12 q_139) rfl rfl rfl hV_Jx4a65c_clear_da8c8 ⟨Nat.le_of_ble_eq_true rfl, Nat.le_of_ble_eq_true rfl⟩) ⟨pc_blind, va_recv hK hP (ci := 0) (q := (RJx4a65c, TJx4a65c, 3)) (q0 := 2) rfl rfl, fun U hU hW => ⟨rfl, hC4 U hU hW⟩⟩ rfl rfl hl.1 rfl (lv_room (Nat.le_of_ble_eq_true rfl)) dX0_putInOrder_4 ⟨(Nat.le_of_ble_eq_true rfl), (Nat.le_of_ble_eq_true rfl)⟩) hS (fun q9 _ h9 => hF1 q9 h9) hF1 (fun u5 t5 H5 L5 ht5 hvm5 hw5 hB5 hz5 hk5 hS => ?_)
  obtain ⟨hP, hD, hK⟩ := pq_jn (wz := [(h0, ce7 h1 o0 o1 h2), (h1, ce259 h3), (h3, ce258 kc0 h5 h6 h7 h8 h9 h10), (h5, ce38 (z.2.1 0) h11 h5), (h6, ce77 (z.2.1 0) h12 h6), (h7, ce115 (z.2.1 0) h13 h7), (h8, ce165 (z.2.1 0) h14 h8), (h9, ce224 (z.2.1 0) h15 h9), (h10, ce256 (z.2.1 0) h16 h10), (h11, ce3 z.1), (h12, ce3 z.1), (h13, ce3 z.1), (h14, ce3 z.1), (h15, ce3 z.1), (h16, ce3 z.1), (h2, ce261 h4), (h4, ce267 kc1)]) (tz := [(kc0, .object "java/lang/Object"), (kc1, .object "java/lang/Object")]) hP hD hK [2, 4] [0] rfl hk5 hF1 hB5.1 ht5 hvm5 rfl rfl
  have hG : s.heap.size + 0 ≤ H5.size := Nat.le_trans hG hz5
  refine lv_iconst (v := 0) hx hb dX0_putInOrder_7 (by decide) ?_
  refine lv_istore_n (lv' := [(1, .int 0), (0, .ref h0)]) hx hb dX0_putInOrder_8 rfl hl (by decide) rfl (fun ls hl => ?_)
  refine lv_iload_n hx hb dX0_putInOrder_9 rfl (lv_at hl 0 rfl) ?_
  refine lv_aload_n hx hb dX0_putInOrder_10 rfl (lv_at hl 1 rfl) ?_
  refine va_get (D := (dC, dI)) (ci := 2) (v := .ref h1) (C := RX0) (T := TX0) (N := 4) hx hb hts in_X0 hown hK hP 0 rfl rfl 0 (by decide) (hts _ q_28) (fun _ h9 => h9) rfl dX0_putInOrder_11 ?_
  have hM9 := k20_size l hl9 dC dI z h1 h3 H5.size 6 6
  obtain ⟨hF7, hC10⟩ := pc_M hM9 hP hD hK hS hX hT hA [1] [] rfl rfl rfl
  refine va_calli (va_runV (As := []) (rest := [.int 0]) ⟨hx, hb, hml, hown, hts⟩ hM9 (cwV 0 hts (gV q_92 q_77 q_78 q_12 q_75) rfl rfl rfl hV_Jx4a65c_size_8abf5 ⟨Nat.le_of_ble_eq_true rfl, Nat.le_of_ble_eq_true rfl⟩) ⟨pc_blind, va_recv hK hP (ci := 0) (q := (RJx4a65c, TJx4a65c, 3)) (q0 := 1) rfl rfl, fun U hU hW => ⟨rfl, hC10 U hU hW⟩⟩ rfl rfl hl.1 rfl (lv_room (Nat.le_of_ble_eq_true rfl)) dX0_putInOrder_14 ⟨(Nat.le_of_ble_eq_true rfl), (Nat.le_of_ble_eq_true rfl)⟩) hS (fun q9 _ h9 => hF7 q9 h9) hF7 (fun r12 u11 t11 H11 L11 ht11 hvm11 hw11 hB11 hz11 hk11 hS => ?_)
  have hP := pq_keep hP hD [1] rfl hk11 hB11.1 ht11
  have hG : s.heap.size + 0 ≤ H11.size := Nat.le_trans hG hz11
  refine W.eq (g2 := F0 m 17 ls [.int 6, .int 0]) (by rw [hw11]) ?_
  refine lv_icmp_ge (tgt := 41) hx hb dX0_putInOrder_17 (by decide) (fun cz => absurd cz (by decide)) (fun _ => ?_)
  refine lv_aload_n hx hb dX0_putInOrder_20 rfl (lv_at hl 1 rfl) ?_
  refine va_get (D := (dC, dI)) (ci := 2) (v := .ref h1) (C := RX0) (T := TX0) (N := 4) hx hb hts in_X0 hown hK hP 0 rfl rfl 0 (by decide) (hts _ q_28) (fun _ h9 => h9) rfl dX0_putInOrder_21 ?_
  refine lv_iload_n hx hb dX0_putInOrder_24 rfl (lv_at hl 0 rfl) ?_
  have hM15 := k492_get l hl9 dC dI z h1 h3 h5 h6 h7 h8 h9 h10 H11.size kc0
  obtain ⟨hF13, hC16⟩ := pc_M hM15 hP hD hK hS hX hT hA [1, 2] [0] rfl rfl rfl
  refine va_callr (va_runV (As := [.int 0]) (rest := []) ⟨hx, hb, hml, hown, hts⟩ hM15 (cwV 1 hts (gV q_156 q_157 q_158 q_12 q_155) rfl rfl rfl hV_Jx4a65c_get_915e3 ⟨Nat.le_of_ble_eq_true rfl, Nat.le_of_ble_eq_true rfl⟩) ⟨pc_blind, va_recv hK hP (ci := 0) (q := (RJx4a65c, TJx4a65c, 3)) (q0 := 1) rfl rfl, fun U hU hW => ⟨rfl, hC16 U hU hW⟩⟩ rfl rfl hl.1 rfl (lv_room (Nat.le_of_ble_eq_true rfl)) dX0_putInOrder_25 ⟨(Nat.le_of_ble_eq_true rfl), (Nat.le_of_ble_eq_true rfl)⟩) hS (fun q9 _ h9 => hF13 q9 h9) hF13 (fun u17 r18 t17 H17 L17 ht17 hvm17 hw17 hB17 hz17 hk17 hS => ?_)
  obtain ⟨hr17, hB17⟩ := hB17
  have hP := pq_keep hP hD [1, 2] rfl hk17 hB17.1 ht17
  have hG : s.heap.size + 0 ≤ H17.size := Nat.le_trans hG hz17
  refine W.eq (g2 := F0 m 28 ls [.ref h5]) (by rw [hr17]) ?_
  refine va_castE (nm := RX2) hx hb hown (hts _ q_89) (va_recv hK hP (ci := 3) (q := (RX2, TX2, 19)) (q0 := 3) rfl rfl) dX0_putInOrder_28 ?_
  refine lv_iconst (v := 0) hx hb dX0_putInOrder_31 (by decide) ?_
  refine va_put (D := (dC, dI)) (ci := 3) (v := .int 0) (ty := .boolean) (C := RX2) (T := TX2) (N := 19) hx hb hts in_X2 tyX2 tyX2_ok nmX2 hown hK hP hD (va_Sre hS) 3 rfl rfl 17 (by decide) (hts _ q_159) (fun _ h9 => h9) rfl (by decide +kernel) rfl rfl (Nat.le_of_ble_eq_true rfl) dX0_putInOrder_32 (fun H19 _ hP hD hS' => ?_)
  have hG : s.heap.size + 0 ≤ H19.size := Nat.le_trans hG hS'.1
  have hS := va_Str hS hS'
  have hP : va_P (dC, dI) xCl [(h0, ce7 h1 o0 o1 h2), (h1, ce259 h3), (h3, ce258 kc0 h5 h6 h7 h8 h9 h10), (h5, ce32 (z.2.1 0) h11 h5), (h6, ce77 (z.2.1 0) h12 h6), (h7, ce115 (z.2.1 0) h13 h7), (h8, ce165 (z.2.1 0) h14 h8), (h9, ce224 (z.2.1 0) h15 h9), (h10, ce256 (z.2.1 0) h16 h10), (h11, ce3 z.1), (h12, ce3 z.1), (h13, ce3 z.1), (h14, ce3 z.1), (h15, ce3 z.1), (h16, ce3 z.1), (h2, ce261 h4), (h4, ce267 kc1)] H19 := hP
  have hD := vd_as hP hD rfl
  refine lv_iinc (v := 1) (lv' := [(1, .int 1), (0, .ref h0)]) hx hb dX0_putInOrder_35 hl (k := 0) rfl (by decide) (by decide) rfl (fun ls hl => ?_)
  refine lv_goto (tgt := 9) hx hb dX0_putInOrder_38 (by decide) ?_
  refine lv_iload_n hx hb dX0_putInOrder_9 rfl (lv_at hl 0 rfl) ?_
  refine lv_aload_n hx hb dX0_putInOrder_10 rfl (lv_at hl 1 rfl) ?_
  refine va_get (D := (dC, dI)) (ci := 2) (v := .ref h1) (C := RX0) (T := TX0) (N := 4) hx hb hts in_X0 hown hK hP 0 rfl rfl 0 (by decide) (hts _ q_28) (fun _ h9 => h9) rfl dX0_putInOrder_11 ?_
  have hM22 := k20_size l hl9 dC dI z h1 h3 H19.size 6 6
  obtain ⟨hF20, hC23⟩ := pc_M hM22 hP hD hK hS hX hT hA [1] [] rfl rfl rfl
  refine va_calli (va_runV (As := []) (rest := [.int 1]) ⟨hx, hb, hml, hown, hts⟩ hM22 (cwV 0 hts (gV q_92 q_77 q_78 q_12 q_75) rfl rfl rfl hV_Jx4a65c_size_8abf5 ⟨Nat.le_of_ble_eq_true rfl, Nat.le_of_ble_eq_true rfl⟩) ⟨pc_blind, va_recv hK hP (ci := 0) (q := (RJx4a65c, TJx4a65c, 3)) (q0 := 1) rfl rfl, fun U hU hW => ⟨rfl, hC23 U hU hW⟩⟩ rfl rfl hl.1 rfl (lv_room (Nat.le_of_ble_eq_true rfl)) dX0_putInOrder_14 ⟨(Nat.le_of_ble_eq_true rfl), (Nat.le_of_ble_eq_true rfl)⟩) hS (fun q9 _ h9 => hF20 q9 h9) hF20 (fun r25 u24 t24 H24 L24 ht24 hvm24 hw24 hB24 hz24 hk24 hS => ?_)
  have hP := pq_keep hP hD [1] rfl hk24 hB24.1 ht24
  have hG : s.heap.size + 0 ≤ H24.size := Nat.le_trans hG hz24
  refine W.eq (g2 := F0 m 17 ls [.int 6, .int 1]) (by rw [hw24]) ?_
  refine lv_icmp_ge (tgt := 41) hx hb dX0_putInOrder_17 (by decide) (fun cz => absurd cz (by decide)) (fun _ => ?_)
  refine lv_aload_n hx hb dX0_putInOrder_20 rfl (lv_at hl 1 rfl) ?_
  refine va_get (D := (dC, dI)) (ci := 2) (v := .ref h1) (C := RX0) (T := TX0) (N := 4) hx hb hts in_X0 hown hK hP 0 rfl rfl 0 (by decide) (hts _ q_28) (fun _ h9 => h9) rfl dX0_putInOrder_21 ?_
  refine lv_iload_n hx hb dX0_putInOrder_24 rfl (lv_at hl 0 rfl) ?_
  have hM28 := k496_get l hl9 dC dI z h1 h3 h5 h6 h7 h8 h9 h10 H24.size kc0
  obtain ⟨hF26, hC29⟩ := pc_M hM28 hP hD hK hS hX hT hA [1, 2] [0] rfl rfl rfl
  refine va_callr (va_runV (As := [.int 1]) (rest := []) ⟨hx, hb, hml, hown, hts⟩ hM28 (cwV 1 hts (gV q_156 q_157 q_158 q_12 q_155) rfl rfl rfl hV_Jx4a65c_get_915e3 ⟨Nat.le_of_ble_eq_true rfl, Nat.le_of_ble_eq_true rfl⟩) ⟨pc_blind, va_recv hK hP (ci := 0) (q := (RJx4a65c, TJx4a65c, 3)) (q0 := 1) rfl rfl, fun U hU hW => ⟨rfl, hC29 U hU hW⟩⟩ rfl rfl hl.1 rfl (lv_room (Nat.le_of_ble_eq_true rfl)) dX0_putInOrder_25 ⟨(Nat.le_of_ble_eq_true rfl), (Nat.le_of_ble_eq_true rfl)⟩) hS (fun q9 _ h9 => hF26 q9 h9) hF26 (fun u30 r31 t30 H30 L30 ht30 hvm30 hw30 hB30 hz30 hk30 hS => ?_)
  obtain ⟨hr30, hB30⟩ := hB30
  have hP := pq_keep hP hD [1, 2] rfl hk30 hB30.1 ht30
  have hG : s.heap.size + 0 ≤ H30.size := Nat.le_trans hG hz30
  refine W.eq (g2 := F0 m 28 ls [.ref h6]) (by rw [hr30]) ?_
  refine va_castE (nm := RX2) hx hb hown (hts _ q_89) (va_recv hK hP (ci := 3) (q := (RX2, TX2, 19)) (q0 := 4) rfl rfl) dX0_putInOrder_28 ?_
  refine lv_iconst (v := 0) hx hb dX0_putInOrder_31 (by decide) ?_
  refine va_put (D := (dC, dI)) (ci := 3) (v := .int 0) (ty := .boolean) (C := RX2) (T := TX2) (N := 19) hx hb hts in_X2 tyX2 tyX2_ok nmX2 hown hK hP hD (va_Sre hS) 4 rfl rfl 17 (by decide) (hts _ q_159) (fun _ h9 => h9) rfl (by decide +kernel) rfl rfl (Nat.le_of_ble_eq_true rfl) dX0_putInOrder_32 (fun H32 _ hP hD hS' => ?_)
  have hG : s.heap.size + 0 ≤ H32.size := Nat.le_trans hG hS'.1
  have hS := va_Str hS hS'
  have hP : va_P (dC, dI) xCl [(h0, ce7 h1 o0 o1 h2), (h1, ce259 h3), (h3, ce258 kc0 h5 h6 h7 h8 h9 h10), (h5, ce32 (z.2.1 0) h11 h5), (h6, ce67 (z.2.1 0) h12 h6), (h7, ce115 (z.2.1 0) h13 h7), (h8, ce165 (z.2.1 0) h14 h8), (h9, ce224 (z.2.1 0) h15 h9), (h10, ce256 (z.2.1 0) h16 h10), (h11, ce3 z.1), (h12, ce3 z.1), (h13, ce3 z.1), (h14, ce3 z.1), (h15, ce3 z.1), (h16, ce3 z.1), (h2, ce261 h4), (h4, ce267 kc1)] H32 := hP
  have hD := vd_as hP hD rfl
  refine lv_iinc (v := 2) (lv' := [(1, .int 2), (0, .ref h0)]) hx hb dX0_putInOrder_35 hl (k := 0) rfl (by decide) (by decide) rfl (fun ls hl => ?_)
  refine lv_goto (tgt := 9) hx hb dX0_putInOrder_38 (by decide) ?_
  refine lv_iload_n hx hb dX0_putInOrder_9 rfl (lv_at hl 0 rfl) ?_
  refine lv_aload_n hx hb dX0_putInOrder_10 rfl (lv_at hl 1 rfl) ?_
  refine va_get (D := (dC, dI)) (ci := 2) (v := .ref h1) (C := RX0) (T := TX0) (N := 4) hx hb hts in_X0 hown hK hP 0 rfl rfl 0 (by decide) (hts _ q_28) (fun _ h9 => h9) rfl dX0_putInOrder_11 ?_
  have hM35 := k20_size l hl9 dC dI z h1 h3 H32.size 6 6
  obtain ⟨hF33, hC36⟩ := pc_M hM35 hP hD hK hS hX hT hA [1] [] rfl rfl rfl
  refine va_calli (va_runV (As := []) (rest := [.int 2]) ⟨hx, hb, hml, hown, hts⟩ hM35 (cwV 0 hts (gV q_92 q_77 q_78 q_12 q_75) rfl rfl rfl hV_Jx4a65c_size_8abf5 ⟨Nat.le_of_ble_eq_true rfl, Nat.le_of_ble_eq_true rfl⟩) ⟨pc_blind, va_recv hK hP (ci := 0) (q := (RJx4a65c, TJx4a65c, 3)) (q0 := 1) rfl rfl, fun U hU hW => ⟨rfl, hC36 U hU hW⟩⟩ rfl rfl hl.1 rfl (lv_room (Nat.le_of_ble_eq_true rfl)) dX0_putInOrder_14 ⟨(Nat.le_of_ble_eq_true rfl), (Nat.le_of_ble_eq_true rfl)⟩) hS (fun q9 _ h9 => hF33 q9 h9) hF33 (fun r38 u37 t37 H37 L37 ht37 hvm37 hw37 hB37 hz37 hk37 hS => ?_)
  have hP := pq_keep hP hD [1] rfl hk37 hB37.1 ht37
  have hG : s.heap.size + 0 ≤ H37.size := Nat.le_trans hG hz37
  refine W.eq (g2 := F0 m 17 ls [.int 6, .int 2]) (by rw [hw37]) ?_
  refine lv_icmp_ge (tgt := 41) hx hb dX0_putInOrder_17 (by decide) (fun cz => absurd cz (by decide)) (fun _ => ?_)
  refine lv_aload_n hx hb dX0_putInOrder_20 rfl (lv_at hl 1 rfl) ?_
  refine va_get (D := (dC, dI)) (ci := 2) (v := .ref h1) (C := RX0) (T := TX0) (N := 4) hx hb hts in_X0 hown hK hP 0 rfl rfl 0 (by decide) (hts _ q_28) (fun _ h9 => h9) rfl dX0_putInOrder_21 ?_
  refine lv_iload_n hx hb dX0_putInOrder_24 rfl (lv_at hl 0 rfl) ?_
  have hM41 := k500_get l hl9 dC dI z h1 h3 h5 h6 h7 h8 h9 h10 H37.size kc0
  obtain ⟨hF39, hC42⟩ := pc_M hM41 hP hD hK hS hX hT hA [1, 2] [0] rfl rfl rfl
  refine va_callr (va_runV (As := [.int 2]) (rest := []) ⟨hx, hb, hml, hown, hts⟩ hM41 (cwV 1 hts (gV q_156 q_157 q_158 q_12 q_155) rfl rfl rfl hV_Jx4a65c_get_915e3 ⟨Nat.le_of_ble_eq_true rfl, Nat.le_of_ble_eq_true rfl⟩) ⟨pc_blind, va_recv hK hP (ci := 0) (q := (RJx4a65c, TJx4a65c, 3)) (q0 := 1) rfl rfl, fun U hU hW => ⟨rfl, hC42 U hU hW⟩⟩ rfl rfl hl.1 rfl (lv_room (Nat.le_of_ble_eq_true rfl)) dX0_putInOrder_25 ⟨(Nat.le_of_ble_eq_true rfl), (Nat.le_of_ble_eq_true rfl)⟩) hS (fun q9 _ h9 => hF39 q9 h9) hF39 (fun u43 r44 t43 H43 L43 ht43 hvm43 hw43 hB43 hz43 hk43 hS => ?_)
  obtain ⟨hr43, hB43⟩ := hB43
  have hP := pq_keep hP hD [1, 2] rfl hk43 hB43.1 ht43
  have hG : s.heap.size + 0 ≤ H43.size := Nat.le_trans hG hz43
  refine W.eq (g2 := F0 m 28 ls [.ref h7]) (by rw [hr43]) ?_
  refine va_castE (nm := RX2) hx hb hown (hts _ q_89) (va_recv hK hP (ci := 3) (q := (RX2, TX2, 19)) (q0 := 5) rfl rfl) dX0_putInOrder_28 ?_
  refine lv_iconst (v := 0) hx hb dX0_putInOrder_31 (by decide) ?_
  refine va_put (D := (dC, dI)) (ci := 3) (v := .int 0) (ty := .boolean) (C := RX2) (T := TX2) (N := 19) hx hb hts in_X2 tyX2 tyX2_ok nmX2 hown hK hP hD (va_Sre hS) 5 rfl rfl 17 (by decide) (hts _ q_159) (fun _ h9 => h9) rfl (by decide +kernel) rfl rfl (Nat.le_of_ble_eq_true rfl) dX0_putInOrder_32 (fun H45 _ hP hD hS' => ?_)
  have hG : s.heap.size + 0 ≤ H45.size := Nat.le_trans hG hS'.1
  have hS := va_Str hS hS'
  have hP : va_P (dC, dI) xCl [(h0, ce7 h1 o0 o1 h2), (h1, ce259 h3), (h3, ce258 kc0 h5 h6 h7 h8 h9 h10), (h5, ce32 (z.2.1 0) h11 h5), (h6, ce67 (z.2.1 0) h12 h6), (h7, ce99 (z.2.1 0) h13 h7), (h8, ce165 (z.2.1 0) h14 h8), (h9, ce224 (z.2.1 0) h15 h9), (h10, ce256 (z.2.1 0) h16 h10), (h11, ce3 z.1), (h12, ce3 z.1), (h13, ce3 z.1), (h14, ce3 z.1), (h15, ce3 z.1), (h16, ce3 z.1), (h2, ce261 h4), (h4, ce267 kc1)] H45 := hP
  have hD := vd_as hP hD rfl
  refine lv_iinc (v := 3) (lv' := [(1, .int 3), (0, .ref h0)]) hx hb dX0_putInOrder_35 hl (k := 0) rfl (by decide) (by decide) rfl (fun ls hl => ?_)
  refine lv_goto (tgt := 9) hx hb dX0_putInOrder_38 (by decide) ?_
  refine lv_iload_n hx hb dX0_putInOrder_9 rfl (lv_at hl 0 rfl) ?_
  refine lv_aload_n hx hb dX0_putInOrder_10 rfl (lv_at hl 1 rfl) ?_
  refine va_get (D := (dC, dI)) (ci := 2) (v := .ref h1) (C := RX0) (T := TX0) (N := 4) hx hb hts in_X0 hown hK hP 0 rfl rfl 0 (by decide) (hts _ q_28) (fun _ h9 => h9) rfl dX0_putInOrder_11 ?_
  have hM48 := k20_size l hl9 dC dI z h1 h3 H45.size 6 6
  obtain ⟨hF46, hC49⟩ := pc_M hM48 hP hD hK hS hX hT hA [1] [] rfl rfl rfl
  refine va_calli (va_runV (As := []) (rest := [.int 3]) ⟨hx, hb, hml, hown, hts⟩ hM48 (cwV 0 hts (gV q_92 q_77 q_78 q_12 q_75) rfl rfl rfl hV_Jx4a65c_size_8abf5 ⟨Nat.le_of_ble_eq_true rfl, Nat.le_of_ble_eq_true rfl⟩) ⟨pc_blind, va_recv hK hP (ci := 0) (q := (RJx4a65c, TJx4a65c, 3)) (q0 := 1) rfl rfl, fun U hU hW => ⟨rfl, hC49 U hU hW⟩⟩ rfl rfl hl.1 rfl (lv_room (Nat.le_of_ble_eq_true rfl)) dX0_putInOrder_14 ⟨(Nat.le_of_ble_eq_true rfl), (Nat.le_of_ble_eq_true rfl)⟩) hS (fun q9 _ h9 => hF46 q9 h9) hF46 (fun r51 u50 t50 H50 L50 ht50 hvm50 hw50 hB50 hz50 hk50 hS => ?_)
  have hP := pq_keep hP hD [1] rfl hk50 hB50.1 ht50
  have hG : s.heap.size + 0 ≤ H50.size := Nat.le_trans hG hz50
  refine W.eq (g2 := F0 m 17 ls [.int 6, .int 3]) (by rw [hw50]) ?_
  refine lv_icmp_ge (tgt := 41) hx hb dX0_putInOrder_17 (by decide) (fun cz => absurd cz (by decide)) (fun _ => ?_)
  refine lv_aload_n hx hb dX0_putInOrder_20 rfl (lv_at hl 1 rfl) ?_
  refine va_get (D := (dC, dI)) (ci := 2) (v := .ref h1) (C := RX0) (T := TX0) (N := 4) hx hb hts in_X0 hown hK hP 0 rfl rfl 0 (by decide) (hts _ q_28) (fun _ h9 => h9) rfl dX0_putInOrder_21 ?_
  refine lv_iload_n hx hb dX0_putInOrder_24 rfl (lv_at hl 0 rfl) ?_
  have hM54 := k504_get l hl9 dC dI z h1 h3 h5 h6 h7 h8 h9 h10 H50.size kc0
  obtain ⟨hF52, hC55⟩ := pc_M hM54 hP hD hK hS hX hT hA [1, 2] [0] rfl rfl rfl
  refine va_callr (va_runV (As := [.int 3]) (rest := []) ⟨hx, hb, hml, hown, hts⟩ hM54 (cwV 1 hts (gV q_156 q_157 q_158 q_12 q_155) rfl rfl rfl hV_Jx4a65c_get_915e3 ⟨Nat.le_of_ble_eq_true rfl, Nat.le_of_ble_eq_true rfl⟩) ⟨pc_blind, va_recv hK hP (ci := 0) (q := (RJx4a65c, TJx4a65c, 3)) (q0 := 1) rfl rfl, fun U hU hW => ⟨rfl, hC55 U hU hW⟩⟩ rfl rfl hl.1 rfl (lv_room (Nat.le_of_ble_eq_true rfl)) dX0_putInOrder_25 ⟨(Nat.le_of_ble_eq_true rfl), (Nat.le_of_ble_eq_true rfl)⟩) hS (fun q9 _ h9 => hF52 q9 h9) hF52 (fun u56 r57 t56 H56 L56 ht56 hvm56 hw56 hB56 hz56 hk56 hS => ?_)
  obtain ⟨hr56, hB56⟩ := hB56
  have hP := pq_keep hP hD [1, 2] rfl hk56 hB56.1 ht56
  have hG : s.heap.size + 0 ≤ H56.size := Nat.le_trans hG hz56
  refine W.eq (g2 := F0 m 28 ls [.ref h8]) (by rw [hr56]) ?_
  refine va_castE (nm := RX2) hx hb hown (hts _ q_89) (va_recv hK hP (ci := 3) (q := (RX2, TX2, 19)) (q0 := 6) rfl rfl) dX0_putInOrder_28 ?_
  refine lv_iconst (v := 0) hx hb dX0_putInOrder_31 (by decide) ?_
  refine va_put (D := (dC, dI)) (ci := 3) (v := .int 0) (ty := .boolean) (C := RX2) (T := TX2) (N := 19) hx hb hts in_X2 tyX2 tyX2_ok nmX2 hown hK hP hD (va_Sre hS) 6 rfl rfl 17 (by decide) (hts _ q_159) (fun _ h9 => h9) rfl (by decide +kernel) rfl rfl (Nat.le_of_ble_eq_true rfl) dX0_putInOrder_32 (fun H58 _ hP hD hS' => ?_)
  have hG : s.heap.size + 0 ≤ H58.size := Nat.le_trans hG hS'.1
  have hS := va_Str hS hS'
  have hP : va_P (dC, dI) xCl [(h0, ce7 h1 o0 o1 h2), (h1, ce259 h3), (h3, ce258 kc0 h5 h6 h7 h8 h9 h10), (h5, ce32 (z.2.1 0) h11 h5), (h6, ce67 (z.2.1 0) h12 h6), (h7, ce99 (z.2.1 0) h13 h7), (h8, ce144 (z.2.1 0) h14 h8), (h9, ce224 (z.2.1 0) h15 h9), (h10, ce256 (z.2.1 0) h16 h10), (h11, ce3 z.1), (h12, ce3 z.1), (h13, ce3 z.1), (h14, ce3 z.1), (h15, ce3 z.1), (h16, ce3 z.1), (h2, ce261 h4), (h4, ce267 kc1)] H58 := hP
  have hD := vd_as hP hD rfl
  refine lv_iinc (v := 4) (lv' := [(1, .int 4), (0, .ref h0)]) hx hb dX0_putInOrder_35 hl (k := 0) rfl (by decide) (by decide) rfl (fun ls hl => ?_)
  refine lv_goto (tgt := 9) hx hb dX0_putInOrder_38 (by decide) ?_
  refine lv_iload_n hx hb dX0_putInOrder_9 rfl (lv_at hl 0 rfl) ?_
  refine lv_aload_n hx hb dX0_putInOrder_10 rfl (lv_at hl 1 rfl) ?_
  refine va_get (D := (dC, dI)) (ci := 2) (v := .ref h1) (C := RX0) (T := TX0) (N := 4) hx hb hts in_X0 hown hK hP 0 rfl rfl 0 (by decide) (hts _ q_28) (fun _ h9 => h9) rfl dX0_putInOrder_11 ?_
  have hM61 := k20_size l hl9 dC dI z h1 h3 H58.size 6 6
  obtain ⟨hF59, hC62⟩ := pc_M hM61 hP hD hK hS hX hT hA [1] [] rfl rfl rfl
  refine va_calli (va_runV (As := []) (rest := [.int 4]) ⟨hx, hb, hml, hown, hts⟩ hM61 (cwV 0 hts (gV q_92 q_77 q_78 q_12 q_75) rfl rfl rfl hV_Jx4a65c_size_8abf5 ⟨Nat.le_of_ble_eq_true rfl, Nat.le_of_ble_eq_true rfl⟩) ⟨pc_blind, va_recv hK hP (ci := 0) (q := (RJx4a65c, TJx4a65c, 3)) (q0 := 1) rfl rfl, fun U hU hW => ⟨rfl, hC62 U hU hW⟩⟩ rfl rfl hl.1 rfl (lv_room (Nat.le_of_ble_eq_true rfl)) dX0_putInOrder_14 ⟨(Nat.le_of_ble_eq_true rfl), (Nat.le_of_ble_eq_true rfl)⟩) hS (fun q9 _ h9 => hF59 q9 h9) hF59 (fun r64 u63 t63 H63 L63 ht63 hvm63 hw63 hB63 hz63 hk63 hS => ?_)
  have hP := pq_keep hP hD [1] rfl hk63 hB63.1 ht63
  have hG : s.heap.size + 0 ≤ H63.size := Nat.le_trans hG hz63
  refine W.eq (g2 := F0 m 17 ls [.int 6, .int 4]) (by rw [hw63]) ?_
  refine lv_icmp_ge (tgt := 41) hx hb dX0_putInOrder_17 (by decide) (fun cz => absurd cz (by decide)) (fun _ => ?_)
  refine lv_aload_n hx hb dX0_putInOrder_20 rfl (lv_at hl 1 rfl) ?_
  refine va_get (D := (dC, dI)) (ci := 2) (v := .ref h1) (C := RX0) (T := TX0) (N := 4) hx hb hts in_X0 hown hK hP 0 rfl rfl 0 (by decide) (hts _ q_28) (fun _ h9 => h9) rfl dX0_putInOrder_21 ?_
  refine lv_iload_n hx hb dX0_putInOrder_24 rfl (lv_at hl 0 rfl) ?_
  have hM67 := k508_get l hl9 dC dI z h1 h3 h5 h6 h7 h8 h9 h10 H63.size kc0
  obtain ⟨hF65, hC68⟩ := pc_M hM67 hP hD hK hS hX hT hA [1, 2] [0] rfl rfl rfl
  refine va_callr (va_runV (As := [.int 4]) (rest := []) ⟨hx, hb, hml, hown, hts⟩ hM67 (cwV 1 hts (gV q_156 q_157 q_158 q_12 q_155) rfl rfl rfl hV_Jx4a65c_get_915e3 ⟨Nat.le_of_ble_eq_true rfl, Nat.le_of_ble_eq_true rfl⟩) ⟨pc_blind, va_recv hK hP (ci := 0) (q := (RJx4a65c, TJx4a65c, 3)) (q0 := 1) rfl rfl, fun U hU hW => ⟨rfl, hC68 U hU hW⟩⟩ rfl rfl hl.1 rfl (lv_room (Nat.le_of_ble_eq_true rfl)) dX0_putInOrder_25 ⟨(Nat.le_of_ble_eq_true rfl), (Nat.le_of_ble_eq_true rfl)⟩) hS (fun q9 _ h9 => hF65 q9 h9) hF65 (fun u69 r70 t69 H69 L69 ht69 hvm69 hw69 hB69 hz69 hk69 hS => ?_)
  obtain ⟨hr69, hB69⟩ := hB69
  have hP := pq_keep hP hD [1, 2] rfl hk69 hB69.1 ht69
  have hG : s.heap.size + 0 ≤ H69.size := Nat.le_trans hG hz69
  refine W.eq (g2 := F0 m 28 ls [.ref h9]) (by rw [hr69]) ?_
  refine va_castE (nm := RX2) hx hb hown (hts _ q_89) (va_recv hK hP (ci := 3) (q := (RX2, TX2, 19)) (q0 := 7) rfl rfl) dX0_putInOrder_28 ?_
  refine lv_iconst (v := 0) hx hb dX0_putInOrder_31 (by decide) ?_
  refine va_put (D := (dC, dI)) (ci := 3) (v := .int 0) (ty := .boolean) (C := RX2) (T := TX2) (N := 19) hx hb hts in_X2 tyX2 tyX2_ok nmX2 hown hK hP hD (va_Sre hS) 7 rfl rfl 17 (by decide) (hts _ q_159) (fun _ h9 => h9) rfl (by decide +kernel) rfl rfl (Nat.le_of_ble_eq_true rfl) dX0_putInOrder_32 (fun H71 _ hP hD hS' => ?_)
  have hG : s.heap.size + 0 ≤ H71.size := Nat.le_trans hG hS'.1
  have hS := va_Str hS hS'
  have hP : va_P (dC, dI) xCl [(h0, ce7 h1 o0 o1 h2), (h1, ce259 h3), (h3, ce258 kc0 h5 h6 h7 h8 h9 h10), (h5, ce32 (z.2.1 0) h11 h5), (h6, ce67 (z.2.1 0) h12 h6), (h7, ce99 (z.2.1 0) h13 h7), (h8, ce144 (z.2.1 0) h14 h8), (h9, ce198 (z.2.1 0) h15 h9), (h10, ce256 (z.2.1 0) h16 h10), (h11, ce3 z.1), (h12, ce3 z.1), (h13, ce3 z.1), (h14, ce3 z.1), (h15, ce3 z.1), (h16, ce3 z.1), (h2, ce261 h4), (h4, ce267 kc1)] H71 := hP
  have hD := vd_as hP hD rfl
  refine lv_iinc (v := 5) (lv' := [(1, .int 5), (0, .ref h0)]) hx hb dX0_putInOrder_35 hl (k := 0) rfl (by decide) (by decide) rfl (fun ls hl => ?_)
  refine lv_goto (tgt := 9) hx hb dX0_putInOrder_38 (by decide) ?_
  refine lv_iload_n hx hb dX0_putInOrder_9 rfl (lv_at hl 0 rfl) ?_
  refine lv_aload_n hx hb dX0_putInOrder_10 rfl (lv_at hl 1 rfl) ?_
  refine va_get (D := (dC, dI)) (ci := 2) (v := .ref h1) (C := RX0) (T := TX0) (N := 4) hx hb hts in_X0 hown hK hP 0 rfl rfl 0 (by decide) (hts _ q_28) (fun _ h9 => h9) rfl dX0_putInOrder_11 ?_
  have hM74 := k20_size l hl9 dC dI z h1 h3 H71.size 6 6
  obtain ⟨hF72, hC75⟩ := pc_M hM74 hP hD hK hS hX hT hA [1] [] rfl rfl rfl
  refine va_calli (va_runV (As := []) (rest := [.int 5]) ⟨hx, hb, hml, hown, hts⟩ hM74 (cwV 0 hts (gV q_92 q_77 q_78 q_12 q_75) rfl rfl rfl hV_Jx4a65c_size_8abf5 ⟨Nat.le_of_ble_eq_true rfl, Nat.le_of_ble_eq_true rfl⟩) ⟨pc_blind, va_recv hK hP (ci := 0) (q := (RJx4a65c, TJx4a65c, 3)) (q0 := 1) rfl rfl, fun U hU hW => ⟨rfl, hC75 U hU hW⟩⟩ rfl rfl hl.1 rfl (lv_room (Nat.le_of_ble_eq_true rfl)) dX0_putInOrder_14 ⟨(Nat.le_of_ble_eq_true rfl), (Nat.le_of_ble_eq_true rfl)⟩) hS (fun q9 _ h9 => hF72 q9 h9) hF72 (fun r77 u76 t76 H76 L76 ht76 hvm76 hw76 hB76 hz76 hk76 hS => ?_)
  have hP := pq_keep hP hD [1] rfl hk76 hB76.1 ht76
  have hG : s.heap.size + 0 ≤ H76.size := Nat.le_trans hG hz76
  refine W.eq (g2 := F0 m 17 ls [.int 6, .int 5]) (by rw [hw76]) ?_
  refine lv_icmp_ge (tgt := 41) hx hb dX0_putInOrder_17 (by decide) (fun cz => absurd cz (by decide)) (fun _ => ?_)
  refine lv_aload_n hx hb dX0_putInOrder_20 rfl (lv_at hl 1 rfl) ?_
  refine va_get (D := (dC, dI)) (ci := 2) (v := .ref h1) (C := RX0) (T := TX0) (N := 4) hx hb hts in_X0 hown hK hP 0 rfl rfl 0 (by decide) (hts _ q_28) (fun _ h9 => h9) rfl dX0_putInOrder_21 ?_
  refine lv_iload_n hx hb dX0_putInOrder_24 rfl (lv_at hl 0 rfl) ?_
  have hM80 := k512_get l hl9 dC dI z h1 h3 h5 h6 h7 h8 h9 h10 H76.size kc0
  obtain ⟨hF78, hC81⟩ := pc_M hM80 hP hD hK hS hX hT hA [1, 2] [0] rfl rfl rfl
  refine va_callr (va_runV (As := [.int 5]) (rest := []) ⟨hx, hb, hml, hown, hts⟩ hM80 (cwV 1 hts (gV q_156 q_157 q_158 q_12 q_155) rfl rfl rfl hV_Jx4a65c_get_915e3 ⟨Nat.le_of_ble_eq_true rfl, Nat.le_of_ble_eq_true rfl⟩) ⟨pc_blind, va_recv hK hP (ci := 0) (q := (RJx4a65c, TJx4a65c, 3)) (q0 := 1) rfl rfl, fun U hU hW => ⟨rfl, hC81 U hU hW⟩⟩ rfl rfl hl.1 rfl (lv_room (Nat.le_of_ble_eq_true rfl)) dX0_putInOrder_25 ⟨(Nat.le_of_ble_eq_true rfl), (Nat.le_of_ble_eq_true rfl)⟩) hS (fun q9 _ h9 => hF78 q9 h9) hF78 (fun u82 r83 t82 H82 L82 ht82 hvm82 hw82 hB82 hz82 hk82 hS => ?_)
  obtain ⟨hr82, hB82⟩ := hB82
  have hP := pq_keep hP hD [1, 2] rfl hk82 hB82.1 ht82
  have hG : s.heap.size + 0 ≤ H82.size := Nat.le_trans hG hz82
  refine W.eq (g2 := F0 m 28 ls [.ref h10]) (by rw [hr82]) ?_
  refine va_castE (nm := RX2) hx hb hown (hts _ q_89) (va_recv hK hP (ci := 3) (q := (RX2, TX2, 19)) (q0 := 8) rfl rfl) dX0_putInOrder_28 ?_
  refine lv_iconst (v := 0) hx hb dX0_putInOrder_31 (by decide) ?_
  refine va_put (D := (dC, dI)) (ci := 3) (v := .int 0) (ty := .boolean) (C := RX2) (T := TX2) (N := 19) hx hb hts in_X2 tyX2 tyX2_ok nmX2 hown hK hP hD (va_Sre hS) 8 rfl rfl 17 (by decide) (hts _ q_159) (fun _ h9 => h9) rfl (by decide +kernel) rfl rfl (Nat.le_of_ble_eq_true rfl) dX0_putInOrder_32 (fun H84 _ hP hD hS' => ?_)
  have hG : s.heap.size + 0 ≤ H84.size := Nat.le_trans hG hS'.1
  have hS := va_Str hS hS'
  have hP : va_P (dC, dI) xCl [(h0, ce7 h1 o0 o1 h2), (h1, ce259 h3), (h3, ce258 kc0 h5 h6 h7 h8 h9 h10), (h5, ce32 (z.2.1 0) h11 h5), (h6, ce67 (z.2.1 0) h12 h6), (h7, ce99 (z.2.1 0) h13 h7), (h8, ce144 (z.2.1 0) h14 h8), (h9, ce198 (z.2.1 0) h15 h9), (h10, ce256 (z.2.1 0) h16 h10), (h11, ce3 z.1), (h12, ce3 z.1), (h13, ce3 z.1), (h14, ce3 z.1), (h15, ce3 z.1), (h16, ce3 z.1), (h2, ce261 h4), (h4, ce267 kc1)] H84 := hP
  have hD := vd_as hP hD rfl
  refine lv_iinc (v := 6) (lv' := [(1, .int 6), (0, .ref h0)]) hx hb dX0_putInOrder_35 hl (k := 0) rfl (by decide) (by decide) rfl (fun ls hl => ?_)
  refine lv_goto (tgt := 9) hx hb dX0_putInOrder_38 (by decide) ?_
  refine lv_iload_n hx hb dX0_putInOrder_9 rfl (lv_at hl 0 rfl) ?_
  refine lv_aload_n hx hb dX0_putInOrder_10 rfl (lv_at hl 1 rfl) ?_
  refine va_get (D := (dC, dI)) (ci := 2) (v := .ref h1) (C := RX0) (T := TX0) (N := 4) hx hb hts in_X0 hown hK hP 0 rfl rfl 0 (by decide) (hts _ q_28) (fun _ h9 => h9) rfl dX0_putInOrder_11 ?_
  have hM87 := k20_size l hl9 dC dI z h1 h3 H84.size 6 6
  obtain ⟨hF85, hC88⟩ := pc_M hM87 hP hD hK hS hX hT hA [1] [] rfl rfl rfl
  refine va_calli (va_runV (As := []) (rest := [.int 6]) ⟨hx, hb, hml, hown, hts⟩ hM87 (cwV 0 hts (gV q_92 q_77 q_78 q_12 q_75) rfl rfl rfl hV_Jx4a65c_size_8abf5 ⟨Nat.le_of_ble_eq_true rfl, Nat.le_of_ble_eq_true rfl⟩) ⟨pc_blind, va_recv hK hP (ci := 0) (q := (RJx4a65c, TJx4a65c, 3)) (q0 := 1) rfl rfl, fun U hU hW => ⟨rfl, hC88 U hU hW⟩⟩ rfl rfl hl.1 rfl (lv_room (Nat.le_of_ble_eq_true rfl)) dX0_putInOrder_14 ⟨(Nat.le_of_ble_eq_true rfl), (Nat.le_of_ble_eq_true rfl)⟩) hS (fun q9 _ h9 => hF85 q9 h9) hF85 (fun r90 u89 t89 H89 L89 ht89 hvm89 hw89 hB89 hz89 hk89 hS => ?_)
  have hP := pq_keep hP hD [1] rfl hk89 hB89.1 ht89
  have hG : s.heap.size + 0 ≤ H89.size := Nat.le_trans hG hz89
  refine W.eq (g2 := F0 m 17 ls [.int 6, .int 6]) (by rw [hw89]) ?_
  refine lv_icmp_ge (tgt := 41) hx hb dX0_putInOrder_17 (by decide) (fun _ => ?_) (fun cz => absurd (by decide) cz)
  refine lv_iconst (v := 0) hx hb dX0_putInOrder_41 (by decide) ?_
  refine lv_istore_n (lv' := [(1, .int 0), (0, .ref h0)]) hx hb dX0_putInOrder_42 rfl hl (by decide) rfl (fun ls hl => ?_)
  refine lv_iload_n hx hb dX0_putInOrder_43 rfl (lv_at hl 0 rfl) ?_
  refine lv_bipush (v := 40) hx hb dX0_putInOrder_44 (by decide) ?_
  refine lv_icmp_ge (tgt := 76) hx hb dX0_putInOrder_46 (by decide) (fun cz => absurd cz (by decide)) (fun _ => ?_)
  refine lv_aload_n hx hb dX0_putInOrder_49 rfl (lv_at hl 1 rfl) ?_
  refine va_get (D := (dC, dI)) (ci := 2) (v := .ref h2) (C := RX0) (T := TX0) (N := 4) hx hb hts in_X0 hown hK hP 0 rfl rfl 3 (by decide) (hts _ q_31) (fun _ h9 => h9) rfl dX0_putInOrder_50 ?_
  have hM93 := k20_size l hl9 dC dI z h2 h4 H89.size 21 0
  obtain ⟨hF91, hC94⟩ := pc_M hM93 hP hD hK hS hX hT hA [15] [] rfl rfl rfl
  refine va_calli (va_runV (As := []) (rest := []) ⟨hx, hb, hml, hown, hts⟩ hM93 (cwV 0 hts (gV q_92 q_77 q_78 q_12 q_75) rfl rfl rfl hV_Jx4a65c_size_8abf5 ⟨Nat.le_of_ble_eq_true rfl, Nat.le_of_ble_eq_true rfl⟩) ⟨pc_blind, va_recv hK hP (ci := 0) (q := (RJx4a65c, TJx4a65c, 3)) (q0 := 15) rfl rfl, fun U hU hW => ⟨rfl, hC94 U hU hW⟩⟩ rfl rfl hl.1 rfl (lv_room (Nat.le_of_ble_eq_true rfl)) dX0_putInOrder_53 ⟨(Nat.le_of_ble_eq_true rfl), (Nat.le_of_ble_eq_true rfl)⟩) hS (fun q9 _ h9 => hF91 q9 h9) hF91 (fun r96 u95 t95 H95 L95 ht95 hvm95 hw95 hB95 hz95 hk95 hS => ?_)
  have hP := pq_keep hP hD [15] rfl hk95 hB95.1 ht95
  have hG : s.heap.size + 0 ≤ H95.size := Nat.le_trans hG hz95
  refine W.eq (g2 := F0 m 56 ls [.int 0]) (by rw [hw95]) ?_
  refine lv_aload_n hx hb dX0_putInOrder_56 rfl (lv_at hl 1 rfl) ?_
  refine va_get (D := (dC, dI)) (ci := 2) (v := .ref h1) (C := RX0) (T := TX0) (N := 4) hx hb hts in_X0 hown hK hP 0 rfl rfl 0 (by decide) (hts _ q_28) (fun _ h9 => h9) rfl dX0_putInOrder_57 ?_
  have hM99 := k20_size l hl9 dC dI z h1 h3 H95.size 6 6
  obtain ⟨hF97, hC100⟩ := pc_M hM99 hP hD hK hS hX hT hA [1] [] rfl rfl rfl
  refine va_calli (va_runV (As := []) (rest := [.int 0]) ⟨hx, hb, hml, hown, hts⟩ hM99 (cwV 0 hts (gV q_92 q_77 q_78 q_12 q_75) rfl rfl rfl hV_Jx4a65c_size_8abf5 ⟨Nat.le_of_ble_eq_true rfl, Nat.le_of_ble_eq_true rfl⟩) ⟨pc_blind, va_recv hK hP (ci := 0) (q := (RJx4a65c, TJx4a65c, 3)) (q0 := 1) rfl rfl, fun U hU hW => ⟨rfl, hC100 U hU hW⟩⟩ rfl rfl hl.1 rfl (lv_room (Nat.le_of_ble_eq_true rfl)) dX0_putInOrder_60 ⟨(Nat.le_of_ble_eq_true rfl), (Nat.le_of_ble_eq_true rfl)⟩) hS (fun q9 _ h9 => hF97 q9 h9) hF97 (fun r102 u101 t101 H101 L101 ht101 hvm101 hw101 hB101 hz101 hk101 hS => ?_)
  have hP := pq_keep hP hD [1] rfl hk101 hB101.1 ht101
  have hG : s.heap.size + 0 ≤ H101.size := Nat.le_trans hG hz101
  refine W.eq (g2 := F0 m 63 ls [.int 6, .int 0]) (by rw [hw101]) ?_
  refine lv_icmp_ge (tgt := 76) hx hb dX0_putInOrder_63 (by decide) (fun cz => absurd cz (by decide)) (fun _ => ?_)
  refine lv_aload_n hx hb dX0_putInOrder_66 rfl (lv_at hl 1 rfl) ?_
  have hM105 := k526_placeThoseReady l hl9 dC dI z h0 h1 h2 h3 h4 h5 h6 h7 h8 h9 h10 h11 h12 h13 h14 h15 h16 o0 o1 H101.size kc0 kc1
  obtain ⟨hF103, hC106⟩ := pc_M hM105 hP hD hK hS hX hT hA [0, 1, 15, 2, 16, 3, 4, 5, 6, 7, 8, 9, 10, 11, 12, 13, 14] [0, 1] rfl rfl rfl
  refine va_callv (va_runV (As := []) (rest := []) ⟨hx, hb, hml, hown, hts⟩ hM105 (cwV 0 hts (gV q_166 q_167 q_168 q_8 q_165) rfl rfl rfl hV_X0_placeThoseReady ⟨Nat.le_of_ble_eq_true rfl, Nat.le_of_ble_eq_true rfl⟩) ⟨pc_blind, va_recv hK hP (ci := 2) (q := (RX0, TX0, 4)) (q0 := 0) rfl rfl, fun U hU hW => ⟨rfl, hC106 U hU hW⟩⟩ rfl rfl hl.1 rfl (lv_room (Nat.le_of_ble_eq_true rfl)) dX0_putInOrder_67 ⟨(Nat.le_of_ble_eq_true rfl), (Nat.le_of_ble_eq_true rfl)⟩) hS (fun q9 _ h9 => hF103 q9 h9) hF103 (fun u107 t107 H107 L107 ht107 hvm107 hw107 hB107 hz107 hk107 hS => ?_)
  obtain ⟨hP, hD, hK⟩ := pq_jn (wz := [(h0, ce7 h1 o0 o1 h2), (h1, ce259 h3), (h2, ce289 h4), (h3, ce258 kc0 h5 h6 h7 h8 h9 h10), (h4, ce258 kc1 h5 h6 h7 h8 h9 h10), (h5, ce38 (z.2.1 0) h11 h5), (h6, ce77 (z.2.1 0) h12 h6), (h7, ce115 (z.2.1 0) h13 h7), (h8, ce165 (z.2.1 0) h14 h8), (h9, ce224 (z.2.1 0) h15 h9), (h10, ce287 (z.2.1 0) h16 h10), (h11, ce3 z.1), (h12, ce3 z.1), (h13, ce3 z.1), (h14, ce3 z.1), (h15, ce3 z.1), (h16, ce3 z.1)]) (tz := [(kc0, .object "java/lang/Object"), (kc1, .object "java/lang/Object")]) hP hD hK [0, 1, 15, 2, 16, 3, 4, 5, 6, 7, 8, 9, 10, 11, 12, 13, 14] [] rfl hk107 hF103 hB107.1 ht107 hvm107 rfl rfl
  have hG : s.heap.size + 0 ≤ H107.size := Nat.le_trans hG hz107
  refine lv_iinc (v := 1) (lv' := [(1, .int 1), (0, .ref h0)]) hx hb dX0_putInOrder_70 hl (k := 0) rfl (by decide) (by decide) rfl (fun ls hl => ?_)
  refine lv_goto (tgt := 43) hx hb dX0_putInOrder_73 (by decide) ?_
  refine lv_iload_n hx hb dX0_putInOrder_43 rfl (lv_at hl 0 rfl) ?_
  refine lv_bipush (v := 40) hx hb dX0_putInOrder_44 (by decide) ?_
  refine lv_icmp_ge (tgt := 76) hx hb dX0_putInOrder_46 (by decide) (fun cz => absurd cz (by decide)) (fun _ => ?_)
  refine lv_aload_n hx hb dX0_putInOrder_49 rfl (lv_at hl 1 rfl) ?_
  refine va_get (D := (dC, dI)) (ci := 2) (v := .ref h2) (C := RX0) (T := TX0) (N := 4) hx hb hts in_X0 hown hK hP 0 rfl rfl 3 (by decide) (hts _ q_31) (fun _ h9 => h9) rfl dX0_putInOrder_50 ?_
  have hM111 := k20_size l hl9 dC dI z h2 h4 H107.size 27 6
  obtain ⟨hF109, hC112⟩ := pc_M hM111 hP hD hK hS hX hT hA [2] [] rfl rfl rfl
  refine va_calli (va_runV (As := []) (rest := []) ⟨hx, hb, hml, hown, hts⟩ hM111 (cwV 0 hts (gV q_92 q_77 q_78 q_12 q_75) rfl rfl rfl hV_Jx4a65c_size_8abf5 ⟨Nat.le_of_ble_eq_true rfl, Nat.le_of_ble_eq_true rfl⟩) ⟨pc_blind, va_recv hK hP (ci := 0) (q := (RJx4a65c, TJx4a65c, 3)) (q0 := 2) rfl rfl, fun U hU hW => ⟨rfl, hC112 U hU hW⟩⟩ rfl rfl hl.1 rfl (lv_room (Nat.le_of_ble_eq_true rfl)) dX0_putInOrder_53 ⟨(Nat.le_of_ble_eq_true rfl), (Nat.le_of_ble_eq_true rfl)⟩) hS (fun q9 _ h9 => hF109 q9 h9) hF109 (fun r114 u113 t113 H113 L113 ht113 hvm113 hw113 hB113 hz113 hk113 hS => ?_)
  have hP := pq_keep hP hD [2] rfl hk113 hB113.1 ht113
  have hG : s.heap.size + 0 ≤ H113.size := Nat.le_trans hG hz113
  refine W.eq (g2 := F0 m 56 ls [.int 6]) (by rw [hw113]) ?_
  refine lv_aload_n hx hb dX0_putInOrder_56 rfl (lv_at hl 1 rfl) ?_
  refine va_get (D := (dC, dI)) (ci := 2) (v := .ref h1) (C := RX0) (T := TX0) (N := 4) hx hb hts in_X0 hown hK hP 0 rfl rfl 0 (by decide) (hts _ q_28) (fun _ h9 => h9) rfl dX0_putInOrder_57 ?_
  have hM117 := k20_size l hl9 dC dI z h1 h3 H113.size 6 6
  obtain ⟨hF115, hC118⟩ := pc_M hM117 hP hD hK hS hX hT hA [1] [] rfl rfl rfl
  refine va_calli (va_runV (As := []) (rest := [.int 6]) ⟨hx, hb, hml, hown, hts⟩ hM117 (cwV 0 hts (gV q_92 q_77 q_78 q_12 q_75) rfl rfl rfl hV_Jx4a65c_size_8abf5 ⟨Nat.le_of_ble_eq_true rfl, Nat.le_of_ble_eq_true rfl⟩) ⟨pc_blind, va_recv hK hP (ci := 0) (q := (RJx4a65c, TJx4a65c, 3)) (q0 := 1) rfl rfl, fun U hU hW => ⟨rfl, hC118 U hU hW⟩⟩ rfl rfl hl.1 rfl (lv_room (Nat.le_of_ble_eq_true rfl)) dX0_putInOrder_60 ⟨(Nat.le_of_ble_eq_true rfl), (Nat.le_of_ble_eq_true rfl)⟩) hS (fun q9 _ h9 => hF115 q9 h9) hF115 (fun r120 u119 t119 H119 L119 ht119 hvm119 hw119 hB119 hz119 hk119 hS => ?_)
  have hP := pq_keep hP hD [1] rfl hk119 hB119.1 ht119
  have hG : s.heap.size + 0 ≤ H119.size := Nat.le_trans hG hz119
  refine W.eq (g2 := F0 m 63 ls [.int 6, .int 6]) (by rw [hw119]) ?_
  refine lv_icmp_ge (tgt := 76) hx hb dX0_putInOrder_63 (by decide) (fun _ => ?_) (fun cz => absurd (by decide) cz)
  exact W.vret hx hb hr (fun t9 ht9 hW9 => ⟨⟨(), rfl, trivial, ⟨pq_mk2 hP hD hK [0, 1, 2, 3, 4, 5, 6, 7, 8, 9, 10, 11, 12, 13, 14, 15, 16] [0, 1] rfl rfl rfl ht9 hW9, by rw [ht9]; exact Nat.le_trans (Nat.add_le_add_left (Nat.le_of_ble_eq_true rfl) _) hG⟩⟩, hS.F ht9⟩) hS.2.2 dX0_putInOrder_76

set_option maxHeartbeats 4000000 in
set_option maxRecDepth 100000 in
theorem k528_countReaders (l : Launch) (hl9 : l.stackTraces = false) (dC : Nat → ClassId) (dI : Nat → Nat → Nat) (z : XZ) (h0 h1 h2 h3 h4 h5 h6 h7 h8 h9 : Nat) (o0 o1 o2 o3 o4 o5 o6 o7 : Nat) (sz : Nat) (kc0 : ClassId) : Met l yX0_countReaders (.code yX0_countReaders cX0_countReaders 3 none :: wsL_law) ({ frames := 3, cells := 0, slots := 0, locals := 64 }) (va_Pc [.ref h0] (PC (dC, dI) [(h0, ce7 h1 o0 h2 o1), (h1, ce259 h3), (h2, ce3 z.1), (h3, ce258 kc0 h4 h5 h6 h7 h8 h9), (h4, ce38 (z.2.1 0) o2 h4), (h5, ce77 (z.2.1 0) o3 h5), (h6, ce115 (z.2.1 0) o4 h6), (h7, ce165 (z.2.1 0) o5 h7), (h8, ce224 (z.2.1 0) o6 h8), (h9, ce287 (z.2.1 0) o7 h9)] [(kc0, .object "java/lang/Object")] sz z)) (va_Qv (fun (_ : Unit) => True) (fun (_ : Unit) (t : State) => PG (dC, dI) [(h0, ce7 h1 o0 h2 o1), (h1, ce259 h3), (h2, ce3 z.1), (h3, ce258 kc0 h4 h5 h6 h7 h8 h9), (h4, ce38 (z.2.1 0) o2 h4), (h5, ce77 (z.2.1 0) o3 h5), (h6, ce115 (z.2.1 0) o4 h6), (h7, ce165 (z.2.1 0) o5 h7), (h8, ce224 (z.2.1 0) o6 h8), (h9, ce287 (z.2.1 0) o7 h9)] [(kc0, .object "java/lang/Object")] (va_A [(h0, ce7 h1 o0 h2 o1), (h1, ce259 h3), (h2, ce3 z.1), (h3, ce258 kc0 h4 h5 h6 h7 h8 h9), (h4, ce38 (z.2.1 0) o2 h4), (h5, ce77 (z.2.1 0) o3 h5), (h6, ce115 (z.2.1 0) o4 h6), (h7, ce165 (z.2.1 0) o5 h7), (h8, ce224 (z.2.1 0) o6 h8), (h9, ce287 (z.2.1 0) o7 h9)] sz) sz 0 t) (va_A [(h0, ce7 h1 o0 h2 o1), (h1, ce259 h3), (h2, ce3 z.1), (h3, ce258 kc0 h4 h5 h6 h7 h8 h9), (h4, ce38 (z.2.1 0) o2 h4), (h5, ce77 (z.2.1 0) o3 h5), (h6, ce115 (z.2.1 0) o4 h6), (h7, ce165 (z.2.1 0) o5 h7), (h8, ce224 (z.2.1 0) o6 h8), (h9, ce287 (z.2.1 0) o7 h9)] sz)) 0 0 (va_A [(h0, ce7 h1 o0 h2 o1), (h1, ce259 h3), (h2, ce3 z.1), (h3, ce258 kc0 h4 h5 h6 h7 h8 h9), (h4, ce38 (z.2.1 0) o2 h4), (h5, ce77 (z.2.1 0) o3 h5), (h6, ce115 (z.2.1 0) o4 h6), (h7, ce165 (z.2.1 0) o5 h7), (h8, ce224 (z.2.1 0) o6 h8), (h9, ce287 (z.2.1 0) o7 h9)] sz) := by
  refine Met.ofW (cc := cX0_countReaders) (maxL := 3) (ret := none) (by decide) rfl ?_
  intro p e s m args below meth c s₁ B hml hv
  obtain ⟨rfl, hsz, hP, hK, hD0, hX, hT⟩ := hv
  have hx := B.exec
  have hb := B.bytes
  have hr := B.returns
  have hts0 := atoms_spec (ws := .code yX0_countReaders cX0_countReaders 3 none :: wsL_law) B.pre
  have hts := xTail hts0
  have hown : s.vm.findClass RX0 = some m.cls := xown B.named rfl
  have hlocks := B.notSynchronized
  subst hsz
  have hD := hD0.self (sz := s.heap.size)
  generalize hAe : va_A [(h0, ce7 h1 o0 h2 o1), (h1, ce259 h3), (h2, ce3 z.1), (h3, ce258 kc0 h4 h5 h6 h7 h8 h9), (h4, ce38 (z.2.1 0) o2 h4), (h5, ce77 (z.2.1 0) o3 h5), (h6, ce115 (z.2.1 0) o4 h6), (h7, ce165 (z.2.1 0) o5 h7), (h8, ce224 (z.2.1 0) o6 h8), (h9, ce287 (z.2.1 0) o7 h9)] s.heap.size = A at hD hX ⊢
  have hA : ∀ q : Nat, s.heap.size ≤ q → A q := fun q h => by rw [← hAe]; exact Or.inr h
  have hS : va_S A s.heap s.heap [] := va_S.rf
  have hG : s.heap.size + 0 ≤ s.heap.size := Nat.le_refl _
  have hl := lv_entry ([.ref h0]) (n := 3) (Nat.le_of_ble_eq_true rfl)
  rw [lg_entry_eq]
  generalize (lg_sl ([.ref h0]) ++ List.replicate (3 - (lg_sl ([.ref h0])).length) Slot.unset).toArray = ls at hl ⊢
  have hl : lv_has ls 3 [(0, .ref h0)] := hl
  refine lv_iconst (v := 0) hx hb dX0_countReaders_0 (by decide) ?_
  refine lv_istore_n (lv' := [(1, .int 0), (0, .ref h0)]) hx hb dX0_countReaders_1 rfl hl (by decide) rfl (fun ls hl => ?_)
  refine lv_iload_n hx hb dX0_countReaders_2 rfl (lv_at hl 0 rfl) ?_
  refine lv_aload_n hx hb dX0_countReaders_3 rfl (lv_at hl 1 rfl) ?_
  refine va_get (D := (dC, dI)) (ci := 2) (v := .ref h1) (C := RX0) (T := TX0) (N := 4) hx hb hts in_X0 hown hK hP 0 rfl rfl 0 (by decide) (hts _ q_28) (fun _ h9 => h9) rfl dX0_countReaders_4 ?_
  have hM3 := k20_size l hl9 dC dI z h1 h3 s.heap.size 6 6
  obtain ⟨hF1, hC4⟩ := pc_M hM3 hP hD hK hS hX hT hA [1] [] rfl rfl rfl
  refine va_calli (va_runV (As := []) (rest := [.int 0]) ⟨hx, hb, hml, hown, hts⟩ hM3 (cwV 0 hts (gV q_92 q_77 q_78 q_12 q_75) rfl rfl rfl hV_Jx4a65c_size_8abf5 ⟨Nat.le_of_ble_eq_true rfl, Nat.le_of_ble_eq_true rfl⟩) ⟨pc_blind, va_recv hK hP (ci := 0) (q := (RJx4a65c, TJx4a65c, 3)) (q0 := 1) rfl rfl, fun U hU hW => ⟨rfl, hC4 U hU hW⟩⟩ rfl rfl hl.1 rfl (lv_room (Nat.le_of_ble_eq_true rfl)) dX0_countReaders_7 ⟨(Nat.le_of_ble_eq_true rfl), (Nat.le_of_ble_eq_true rfl)⟩) hS (fun q9 _ h9 => hF1 q9 h9) hF1 (fun r6 u5 t5 H5 L5 ht5 hvm5 hw5 hB5 hz5 hk5 hS => ?_)
  have hP := pq_keep hP hD [1] rfl hk5 hB5.1 ht5
  have hG : s.heap.size + 0 ≤ H5.size := Nat.le_trans hG hz5
  refine W.eq (g2 := F0 m 10 ls [.int 6, .int 0]) (by rw [hw5]) ?_
  refine lv_icmp_ge (tgt := 34) hx hb dX0_countReaders_10 (by decide) (fun cz => absurd cz (by decide)) (fun _ => ?_)
  refine lv_aload_n hx hb dX0_countReaders_13 rfl (lv_at hl 1 rfl) ?_
  refine va_get (D := (dC, dI)) (ci := 2) (v := .ref h1) (C := RX0) (T := TX0) (N := 4) hx hb hts in_X0 hown hK hP 0 rfl rfl 0 (by decide) (hts _ q_28) (fun _ h9 => h9) rfl dX0_countReaders_14 ?_
  refine lv_iload_n hx hb dX0_countReaders_17 rfl (lv_at hl 0 rfl) ?_
  have hM9 := k492_get l hl9 dC dI z h1 h3 h4 h5 h6 h7 h8 h9 H5.size kc0
  obtain ⟨hF7, hC10⟩ := pc_M hM9 hP hD hK hS hX hT hA [1, 3] [0] rfl rfl rfl
  refine va_callr (va_runV (As := [.int 0]) (rest := []) ⟨hx, hb, hml, hown, hts⟩ hM9 (cwV 1 hts (gV q_156 q_157 q_158 q_12 q_155) rfl rfl rfl hV_Jx4a65c_get_915e3 ⟨Nat.le_of_ble_eq_true rfl, Nat.le_of_ble_eq_true rfl⟩) ⟨pc_blind, va_recv hK hP (ci := 0) (q := (RJx4a65c, TJx4a65c, 3)) (q0 := 1) rfl rfl, fun U hU hW => ⟨rfl, hC10 U hU hW⟩⟩ rfl rfl hl.1 rfl (lv_room (Nat.le_of_ble_eq_true rfl)) dX0_countReaders_18 ⟨(Nat.le_of_ble_eq_true rfl), (Nat.le_of_ble_eq_true rfl)⟩) hS (fun q9 _ h9 => hF7 q9 h9) hF7 (fun u11 r12 t11 H11 L11 ht11 hvm11 hw11 hB11 hz11 hk11 hS => ?_)
  obtain ⟨hr11, hB11⟩ := hB11
  have hP := pq_keep hP hD [1, 3] rfl hk11 hB11.1 ht11
  have hG : s.heap.size + 0 ≤ H11.size := Nat.le_trans hG hz11
  refine W.eq (g2 := F0 m 21 ls [.ref h4]) (by rw [hr11]) ?_
  refine va_castE (nm := RX2) hx hb hown (hts _ q_89) (va_recv hK hP (ci := 3) (q := (RX2, TX2, 19)) (q0 := 4) rfl rfl) dX0_countReaders_21 ?_
  refine lv_iconst (v := 0) hx hb dX0_countReaders_24 (by decide) ?_
  refine va_put (D := (dC, dI)) (ci := 3) (v := .int 0) (ty := .int) (C := RX2) (T := TX2) (N := 19) hx hb hts in_X2 tyX2 tyX2_ok nmX2 hown hK hP hD (va_Sre hS) 4 rfl rfl 13 (by decide) (hts _ q_173) (fun _ h9 => h9) rfl (by decide +kernel) rfl rfl (Nat.le_of_ble_eq_true rfl) dX0_countReaders_25 (fun H13 _ hP hD hS' => ?_)
  have hG : s.heap.size + 0 ≤ H13.size := Nat.le_trans hG hS'.1
  have hS := va_Str hS hS'
  have hP : va_P (dC, dI) xCl [(h0, ce7 h1 o0 h2 o1), (h1, ce259 h3), (h2, ce3 z.1), (h3, ce258 kc0 h4 h5 h6 h7 h8 h9), (h4, ce38 (z.2.1 0) o2 h4), (h5, ce77 (z.2.1 0) o3 h5), (h6, ce115 (z.2.1 0) o4 h6), (h7, ce165 (z.2.1 0) o5 h7), (h8, ce224 (z.2.1 0) o6 h8), (h9, ce287 (z.2.1 0) o7 h9)] H13 := hP
  have hD := vd_as hP hD rfl
  refine lv_iinc (v := 1) (lv' := [(1, .int 1), (0, .ref h0)]) hx hb dX0_countReaders_28 hl (k := 0) rfl (by decide) (by decide) rfl (fun ls hl => ?_)
  refine lv_goto (tgt := 2) hx hb dX0_countReaders_31 (by decide) ?_
  refine lv_iload_n hx hb dX0_countReaders_2 rfl (lv_at hl 0 rfl) ?_
  refine lv_aload_n hx hb dX0_countReaders_3 rfl (lv_at hl 1 rfl) ?_
  refine va_get (D := (dC, dI)) (ci := 2) (v := .ref h1) (C := RX0) (T := TX0) (N := 4) hx hb hts in_X0 hown hK hP 0 rfl rfl 0 (by decide) (hts _ q_28) (fun _ h9 => h9) rfl dX0_countReaders_4 ?_
  have hM16 := k20_size l hl9 dC dI z h1 h3 H13.size 6 6
  obtain ⟨hF14, hC17⟩ := pc_M hM16 hP hD hK hS hX hT hA [1] [] rfl rfl rfl
  refine va_calli (va_runV (As := []) (rest := [.int 1]) ⟨hx, hb, hml, hown, hts⟩ hM16 (cwV 0 hts (gV q_92 q_77 q_78 q_12 q_75) rfl rfl rfl hV_Jx4a65c_size_8abf5 ⟨Nat.le_of_ble_eq_true rfl, Nat.le_of_ble_eq_true rfl⟩) ⟨pc_blind, va_recv hK hP (ci := 0) (q := (RJx4a65c, TJx4a65c, 3)) (q0 := 1) rfl rfl, fun U hU hW => ⟨rfl, hC17 U hU hW⟩⟩ rfl rfl hl.1 rfl (lv_room (Nat.le_of_ble_eq_true rfl)) dX0_countReaders_7 ⟨(Nat.le_of_ble_eq_true rfl), (Nat.le_of_ble_eq_true rfl)⟩) hS (fun q9 _ h9 => hF14 q9 h9) hF14 (fun r19 u18 t18 H18 L18 ht18 hvm18 hw18 hB18 hz18 hk18 hS => ?_)
  have hP := pq_keep hP hD [1] rfl hk18 hB18.1 ht18
  have hG : s.heap.size + 0 ≤ H18.size := Nat.le_trans hG hz18
  refine W.eq (g2 := F0 m 10 ls [.int 6, .int 1]) (by rw [hw18]) ?_
  refine lv_icmp_ge (tgt := 34) hx hb dX0_countReaders_10 (by decide) (fun cz => absurd cz (by decide)) (fun _ => ?_)
  refine lv_aload_n hx hb dX0_countReaders_13 rfl (lv_at hl 1 rfl) ?_
  refine va_get (D := (dC, dI)) (ci := 2) (v := .ref h1) (C := RX0) (T := TX0) (N := 4) hx hb hts in_X0 hown hK hP 0 rfl rfl 0 (by decide) (hts _ q_28) (fun _ h9 => h9) rfl dX0_countReaders_14 ?_
  refine lv_iload_n hx hb dX0_countReaders_17 rfl (lv_at hl 0 rfl) ?_
  have hM22 := k496_get l hl9 dC dI z h1 h3 h4 h5 h6 h7 h8 h9 H18.size kc0
  obtain ⟨hF20, hC23⟩ := pc_M hM22 hP hD hK hS hX hT hA [1, 3] [0] rfl rfl rfl
  refine va_callr (va_runV (As := [.int 1]) (rest := []) ⟨hx, hb, hml, hown, hts⟩ hM22 (cwV 1 hts (gV q_156 q_157 q_158 q_12 q_155) rfl rfl rfl hV_Jx4a65c_get_915e3 ⟨Nat.le_of_ble_eq_true rfl, Nat.le_of_ble_eq_true rfl⟩) ⟨pc_blind, va_recv hK hP (ci := 0) (q := (RJx4a65c, TJx4a65c, 3)) (q0 := 1) rfl rfl, fun U hU hW => ⟨rfl, hC23 U hU hW⟩⟩ rfl rfl hl.1 rfl (lv_room (Nat.le_of_ble_eq_true rfl)) dX0_countReaders_18 ⟨(Nat.le_of_ble_eq_true rfl), (Nat.le_of_ble_eq_true rfl)⟩) hS (fun q9 _ h9 => hF20 q9 h9) hF20 (fun u24 r25 t24 H24 L24 ht24 hvm24 hw24 hB24 hz24 hk24 hS => ?_)
  obtain ⟨hr24, hB24⟩ := hB24
  have hP := pq_keep hP hD [1, 3] rfl hk24 hB24.1 ht24
  have hG : s.heap.size + 0 ≤ H24.size := Nat.le_trans hG hz24
  refine W.eq (g2 := F0 m 21 ls [.ref h5]) (by rw [hr24]) ?_
  refine va_castE (nm := RX2) hx hb hown (hts _ q_89) (va_recv hK hP (ci := 3) (q := (RX2, TX2, 19)) (q0 := 5) rfl rfl) dX0_countReaders_21 ?_
  refine lv_iconst (v := 0) hx hb dX0_countReaders_24 (by decide) ?_
  refine va_put (D := (dC, dI)) (ci := 3) (v := .int 0) (ty := .int) (C := RX2) (T := TX2) (N := 19) hx hb hts in_X2 tyX2 tyX2_ok nmX2 hown hK hP hD (va_Sre hS) 5 rfl rfl 13 (by decide) (hts _ q_173) (fun _ h9 => h9) rfl (by decide +kernel) rfl rfl (Nat.le_of_ble_eq_true rfl) dX0_countReaders_25 (fun H26 _ hP hD hS' => ?_)
  have hG : s.heap.size + 0 ≤ H26.size := Nat.le_trans hG hS'.1
  have hS := va_Str hS hS'
  have hP : va_P (dC, dI) xCl [(h0, ce7 h1 o0 h2 o1), (h1, ce259 h3), (h2, ce3 z.1), (h3, ce258 kc0 h4 h5 h6 h7 h8 h9), (h4, ce38 (z.2.1 0) o2 h4), (h5, ce77 (z.2.1 0) o3 h5), (h6, ce115 (z.2.1 0) o4 h6), (h7, ce165 (z.2.1 0) o5 h7), (h8, ce224 (z.2.1 0) o6 h8), (h9, ce287 (z.2.1 0) o7 h9)] H26 := hP
  have hD := vd_as hP hD rfl
  refine lv_iinc (v := 2) (lv' := [(1, .int 2), (0, .ref h0)]) hx hb dX0_countReaders_28 hl (k := 0) rfl (by decide) (by decide) rfl (fun ls hl => ?_)
  refine lv_goto (tgt := 2) hx hb dX0_countReaders_31 (by decide) ?_
  refine lv_iload_n hx hb dX0_countReaders_2 rfl (lv_at hl 0 rfl) ?_
  refine lv_aload_n hx hb dX0_countReaders_3 rfl (lv_at hl 1 rfl) ?_
  refine va_get (D := (dC, dI)) (ci := 2) (v := .ref h1) (C := RX0) (T := TX0) (N := 4) hx hb hts in_X0 hown hK hP 0 rfl rfl 0 (by decide) (hts _ q_28) (fun _ h9 => h9) rfl dX0_countReaders_4 ?_
  have hM29 := k20_size l hl9 dC dI z h1 h3 H26.size 6 6
  obtain ⟨hF27, hC30⟩ := pc_M hM29 hP hD hK hS hX hT hA [1] [] rfl rfl rfl
  refine va_calli (va_runV (As := []) (rest := [.int 2]) ⟨hx, hb, hml, hown, hts⟩ hM29 (cwV 0 hts (gV q_92 q_77 q_78 q_12 q_75) rfl rfl rfl hV_Jx4a65c_size_8abf5 ⟨Nat.le_of_ble_eq_true rfl, Nat.le_of_ble_eq_true rfl⟩) ⟨pc_blind, va_recv hK hP (ci := 0) (q := (RJx4a65c, TJx4a65c, 3)) (q0 := 1) rfl rfl, fun U hU hW => ⟨rfl, hC30 U hU hW⟩⟩ rfl rfl hl.1 rfl (lv_room (Nat.le_of_ble_eq_true rfl)) dX0_countReaders_7 ⟨(Nat.le_of_ble_eq_true rfl), (Nat.le_of_ble_eq_true rfl)⟩) hS (fun q9 _ h9 => hF27 q9 h9) hF27 (fun r32 u31 t31 H31 L31 ht31 hvm31 hw31 hB31 hz31 hk31 hS => ?_)
  have hP := pq_keep hP hD [1] rfl hk31 hB31.1 ht31
  have hG : s.heap.size + 0 ≤ H31.size := Nat.le_trans hG hz31
  refine W.eq (g2 := F0 m 10 ls [.int 6, .int 2]) (by rw [hw31]) ?_
  refine lv_icmp_ge (tgt := 34) hx hb dX0_countReaders_10 (by decide) (fun cz => absurd cz (by decide)) (fun _ => ?_)
  refine lv_aload_n hx hb dX0_countReaders_13 rfl (lv_at hl 1 rfl) ?_
  refine va_get (D := (dC, dI)) (ci := 2) (v := .ref h1) (C := RX0) (T := TX0) (N := 4) hx hb hts in_X0 hown hK hP 0 rfl rfl 0 (by decide) (hts _ q_28) (fun _ h9 => h9) rfl dX0_countReaders_14 ?_
  refine lv_iload_n hx hb dX0_countReaders_17 rfl (lv_at hl 0 rfl) ?_
  have hM35 := k500_get l hl9 dC dI z h1 h3 h4 h5 h6 h7 h8 h9 H31.size kc0
  obtain ⟨hF33, hC36⟩ := pc_M hM35 hP hD hK hS hX hT hA [1, 3] [0] rfl rfl rfl
  refine va_callr (va_runV (As := [.int 2]) (rest := []) ⟨hx, hb, hml, hown, hts⟩ hM35 (cwV 1 hts (gV q_156 q_157 q_158 q_12 q_155) rfl rfl rfl hV_Jx4a65c_get_915e3 ⟨Nat.le_of_ble_eq_true rfl, Nat.le_of_ble_eq_true rfl⟩) ⟨pc_blind, va_recv hK hP (ci := 0) (q := (RJx4a65c, TJx4a65c, 3)) (q0 := 1) rfl rfl, fun U hU hW => ⟨rfl, hC36 U hU hW⟩⟩ rfl rfl hl.1 rfl (lv_room (Nat.le_of_ble_eq_true rfl)) dX0_countReaders_18 ⟨(Nat.le_of_ble_eq_true rfl), (Nat.le_of_ble_eq_true rfl)⟩) hS (fun q9 _ h9 => hF33 q9 h9) hF33 (fun u37 r38 t37 H37 L37 ht37 hvm37 hw37 hB37 hz37 hk37 hS => ?_)
  obtain ⟨hr37, hB37⟩ := hB37
  have hP := pq_keep hP hD [1, 3] rfl hk37 hB37.1 ht37
  have hG : s.heap.size + 0 ≤ H37.size := Nat.le_trans hG hz37
  refine W.eq (g2 := F0 m 21 ls [.ref h6]) (by rw [hr37]) ?_
  refine va_castE (nm := RX2) hx hb hown (hts _ q_89) (va_recv hK hP (ci := 3) (q := (RX2, TX2, 19)) (q0 := 6) rfl rfl) dX0_countReaders_21 ?_
  refine lv_iconst (v := 0) hx hb dX0_countReaders_24 (by decide) ?_
  refine va_put (D := (dC, dI)) (ci := 3) (v := .int 0) (ty := .int) (C := RX2) (T := TX2) (N := 19) hx hb hts in_X2 tyX2 tyX2_ok nmX2 hown hK hP hD (va_Sre hS) 6 rfl rfl 13 (by decide) (hts _ q_173) (fun _ h9 => h9) rfl (by decide +kernel) rfl rfl (Nat.le_of_ble_eq_true rfl) dX0_countReaders_25 (fun H39 _ hP hD hS' => ?_)
  have hG : s.heap.size + 0 ≤ H39.size := Nat.le_trans hG hS'.1
  have hS := va_Str hS hS'
  have hP : va_P (dC, dI) xCl [(h0, ce7 h1 o0 h2 o1), (h1, ce259 h3), (h2, ce3 z.1), (h3, ce258 kc0 h4 h5 h6 h7 h8 h9), (h4, ce38 (z.2.1 0) o2 h4), (h5, ce77 (z.2.1 0) o3 h5), (h6, ce115 (z.2.1 0) o4 h6), (h7, ce165 (z.2.1 0) o5 h7), (h8, ce224 (z.2.1 0) o6 h8), (h9, ce287 (z.2.1 0) o7 h9)] H39 := hP
  have hD := vd_as hP hD rfl
  refine lv_iinc (v := 3) (lv' := [(1, .int 3), (0, .ref h0)]) hx hb dX0_countReaders_28 hl (k := 0) rfl (by decide) (by decide) rfl (fun ls hl => ?_)
  refine lv_goto (tgt := 2) hx hb dX0_countReaders_31 (by decide) ?_
  refine lv_iload_n hx hb dX0_countReaders_2 rfl (lv_at hl 0 rfl) ?_
  refine lv_aload_n hx hb dX0_countReaders_3 rfl (lv_at hl 1 rfl) ?_
  refine va_get (D := (dC, dI)) (ci := 2) (v := .ref h1) (C := RX0) (T := TX0) (N := 4) hx hb hts in_X0 hown hK hP 0 rfl rfl 0 (by decide) (hts _ q_28) (fun _ h9 => h9) rfl dX0_countReaders_4 ?_
  have hM42 := k20_size l hl9 dC dI z h1 h3 H39.size 6 6
  obtain ⟨hF40, hC43⟩ := pc_M hM42 hP hD hK hS hX hT hA [1] [] rfl rfl rfl
  refine va_calli (va_runV (As := []) (rest := [.int 3]) ⟨hx, hb, hml, hown, hts⟩ hM42 (cwV 0 hts (gV q_92 q_77 q_78 q_12 q_75) rfl rfl rfl hV_Jx4a65c_size_8abf5 ⟨Nat.le_of_ble_eq_true rfl, Nat.le_of_ble_eq_true rfl⟩) ⟨pc_blind, va_recv hK hP (ci := 0) (q := (RJx4a65c, TJx4a65c, 3)) (q0 := 1) rfl rfl, fun U hU hW => ⟨rfl, hC43 U hU hW⟩⟩ rfl rfl hl.1 rfl (lv_room (Nat.le_of_ble_eq_true rfl)) dX0_countReaders_7 ⟨(Nat.le_of_ble_eq_true rfl), (Nat.le_of_ble_eq_true rfl)⟩) hS (fun q9 _ h9 => hF40 q9 h9) hF40 (fun r45 u44 t44 H44 L44 ht44 hvm44 hw44 hB44 hz44 hk44 hS => ?_)
  have hP := pq_keep hP hD [1] rfl hk44 hB44.1 ht44
  have hG : s.heap.size + 0 ≤ H44.size := Nat.le_trans hG hz44
  refine W.eq (g2 := F0 m 10 ls [.int 6, .int 3]) (by rw [hw44]) ?_
  refine lv_icmp_ge (tgt := 34) hx hb dX0_countReaders_10 (by decide) (fun cz => absurd cz (by decide)) (fun _ => ?_)
  refine lv_aload_n hx hb dX0_countReaders_13 rfl (lv_at hl 1 rfl) ?_
  refine va_get (D := (dC, dI)) (ci := 2) (v := .ref h1) (C := RX0) (T := TX0) (N := 4) hx hb hts in_X0 hown hK hP 0 rfl rfl 0 (by decide) (hts _ q_28) (fun _ h9 => h9) rfl dX0_countReaders_14 ?_
  refine lv_iload_n hx hb dX0_countReaders_17 rfl (lv_at hl 0 rfl) ?_
  have hM48 := k504_get l hl9 dC dI z h1 h3 h4 h5 h6 h7 h8 h9 H44.size kc0
  obtain ⟨hF46, hC49⟩ := pc_M hM48 hP hD hK hS hX hT hA [1, 3] [0] rfl rfl rfl
  refine va_callr (va_runV (As := [.int 3]) (rest := []) ⟨hx, hb, hml, hown, hts⟩ hM48 (cwV 1 hts (gV q_156 q_157 q_158 q_12 q_155) rfl rfl rfl hV_Jx4a65c_get_915e3 ⟨Nat.le_of_ble_eq_true rfl, Nat.le_of_ble_eq_true rfl⟩) ⟨pc_blind, va_recv hK hP (ci := 0) (q := (RJx4a65c, TJx4a65c, 3)) (q0 := 1) rfl rfl, fun U hU hW => ⟨rfl, hC49 U hU hW⟩⟩ rfl rfl hl.1 rfl (lv_room (Nat.le_of_ble_eq_true rfl)) dX0_countReaders_18 ⟨(Nat.le_of_ble_eq_true rfl), (Nat.le_of_ble_eq_true rfl)⟩) hS (fun q9 _ h9 => hF46 q9 h9) hF46 (fun u50 r51 t50 H50 L50 ht50 hvm50 hw50 hB50 hz50 hk50 hS => ?_)
  obtain ⟨hr50, hB50⟩ := hB50
  have hP := pq_keep hP hD [1, 3] rfl hk50 hB50.1 ht50
  have hG : s.heap.size + 0 ≤ H50.size := Nat.le_trans hG hz50
  refine W.eq (g2 := F0 m 21 ls [.ref h7]) (by rw [hr50]) ?_
  refine va_castE (nm := RX2) hx hb hown (hts _ q_89) (va_recv hK hP (ci := 3) (q := (RX2, TX2, 19)) (q0 := 7) rfl rfl) dX0_countReaders_21 ?_
  refine lv_iconst (v := 0) hx hb dX0_countReaders_24 (by decide) ?_
  refine va_put (D := (dC, dI)) (ci := 3) (v := .int 0) (ty := .int) (C := RX2) (T := TX2) (N := 19) hx hb hts in_X2 tyX2 tyX2_ok nmX2 hown hK hP hD (va_Sre hS) 7 rfl rfl 13 (by decide) (hts _ q_173) (fun _ h9 => h9) rfl (by decide +kernel) rfl rfl (Nat.le_of_ble_eq_true rfl) dX0_countReaders_25 (fun H52 _ hP hD hS' => ?_)
  have hG : s.heap.size + 0 ≤ H52.size := Nat.le_trans hG hS'.1
  have hS := va_Str hS hS'
  have hP : va_P (dC, dI) xCl [(h0, ce7 h1 o0 h2 o1), (h1, ce259 h3), (h2, ce3 z.1), (h3, ce258 kc0 h4 h5 h6 h7 h8 h9), (h4, ce38 (z.2.1 0) o2 h4), (h5, ce77 (z.2.1 0) o3 h5), (h6, ce115 (z.2.1 0) o4 h6), (h7, ce165 (z.2.1 0) o5 h7), (h8, ce224 (z.2.1 0) o6 h8), (h9, ce287 (z.2.1 0) o7 h9)] H52 := hP
  have hD := vd_as hP hD rfl
  refine lv_iinc (v := 4) (lv' := [(1, .int 4), (0, .ref h0)]) hx hb dX0_countReaders_28 hl (k := 0) rfl (by decide) (by decide) rfl (fun ls hl => ?_)
  refine lv_goto (tgt := 2) hx hb dX0_countReaders_31 (by decide) ?_
  refine lv_iload_n hx hb dX0_countReaders_2 rfl (lv_at hl 0 rfl) ?_
  refine lv_aload_n hx hb dX0_countReaders_3 rfl (lv_at hl 1 rfl) ?_
  refine va_get (D := (dC, dI)) (ci := 2) (v := .ref h1) (C := RX0) (T := TX0) (N := 4) hx hb hts in_X0 hown hK hP 0 rfl rfl 0 (by decide) (hts _ q_28) (fun _ h9 => h9) rfl dX0_countReaders_4 ?_
  have hM55 := k20_size l hl9 dC dI z h1 h3 H52.size 6 6
  obtain ⟨hF53, hC56⟩ := pc_M hM55 hP hD hK hS hX hT hA [1] [] rfl rfl rfl
  refine va_calli (va_runV (As := []) (rest := [.int 4]) ⟨hx, hb, hml, hown, hts⟩ hM55 (cwV 0 hts (gV q_92 q_77 q_78 q_12 q_75) rfl rfl rfl hV_Jx4a65c_size_8abf5 ⟨Nat.le_of_ble_eq_true rfl, Nat.le_of_ble_eq_true rfl⟩) ⟨pc_blind, va_recv hK hP (ci := 0) (q := (RJx4a65c, TJx4a65c, 3)) (q0 := 1) rfl rfl, fun U hU hW => ⟨rfl, hC56 U hU hW⟩⟩ rfl rfl hl.1 rfl (lv_room (Nat.le_of_ble_eq_true rfl)) dX0_countReaders_7 ⟨(Nat.le_of_ble_eq_true rfl), (Nat.le_of_ble_eq_true rfl)⟩) hS (fun q9 _ h9 => hF53 q9 h9) hF53 (fun r58 u57 t57 H57 L57 ht57 hvm57 hw57 hB57 hz57 hk57 hS => ?_)
  have hP := pq_keep hP hD [1] rfl hk57 hB57.1 ht57
  have hG : s.heap.size + 0 ≤ H57.size := Nat.le_trans hG hz57
  refine W.eq (g2 := F0 m 10 ls [.int 6, .int 4]) (by rw [hw57]) ?_
  refine lv_icmp_ge (tgt := 34) hx hb dX0_countReaders_10 (by decide) (fun cz => absurd cz (by decide)) (fun _ => ?_)
  refine lv_aload_n hx hb dX0_countReaders_13 rfl (lv_at hl 1 rfl) ?_
  refine va_get (D := (dC, dI)) (ci := 2) (v := .ref h1) (C := RX0) (T := TX0) (N := 4) hx hb hts in_X0 hown hK hP 0 rfl rfl 0 (by decide) (hts _ q_28) (fun _ h9 => h9) rfl dX0_countReaders_14 ?_
  refine lv_iload_n hx hb dX0_countReaders_17 rfl (lv_at hl 0 rfl) ?_
  have hM61 := k508_get l hl9 dC dI z h1 h3 h4 h5 h6 h7 h8 h9 H57.size kc0
  obtain ⟨hF59, hC62⟩ := pc_M hM61 hP hD hK hS hX hT hA [1, 3] [0] rfl rfl rfl
  refine va_callr (va_runV (As := [.int 4]) (rest := []) ⟨hx, hb, hml, hown, hts⟩ hM61 (cwV 1 hts (gV q_156 q_157 q_158 q_12 q_155) rfl rfl rfl hV_Jx4a65c_get_915e3 ⟨Nat.le_of_ble_eq_true rfl, Nat.le_of_ble_eq_true rfl⟩) ⟨pc_blind, va_recv hK hP (ci := 0) (q := (RJx4a65c, TJx4a65c, 3)) (q0 := 1) rfl rfl, fun U hU hW => ⟨rfl, hC62 U hU hW⟩⟩ rfl rfl hl.1 rfl (lv_room (Nat.le_of_ble_eq_true rfl)) dX0_countReaders_18 ⟨(Nat.le_of_ble_eq_true rfl), (Nat.le_of_ble_eq_true rfl)⟩) hS (fun q9 _ h9 => hF59 q9 h9) hF59 (fun u63 r64 t63 H63 L63 ht63 hvm63 hw63 hB63 hz63 hk63 hS => ?_)
  obtain ⟨hr63, hB63⟩ := hB63
  have hP := pq_keep hP hD [1, 3] rfl hk63 hB63.1 ht63
  have hG : s.heap.size + 0 ≤ H63.size := Nat.le_trans hG hz63
  refine W.eq (g2 := F0 m 21 ls [.ref h8]) (by rw [hr63]) ?_
  refine va_castE (nm := RX2) hx hb hown (hts _ q_89) (va_recv hK hP (ci := 3) (q := (RX2, TX2, 19)) (q0 := 8) rfl rfl) dX0_countReaders_21 ?_
  refine lv_iconst (v := 0) hx hb dX0_countReaders_24 (by decide) ?_
  refine va_put (D := (dC, dI)) (ci := 3) (v := .int 0) (ty := .int) (C := RX2) (T := TX2) (N := 19) hx hb hts in_X2 tyX2 tyX2_ok nmX2 hown hK hP hD (va_Sre hS) 8 rfl rfl 13 (by decide) (hts _ q_173) (fun _ h9 => h9) rfl (by decide +kernel) rfl rfl (Nat.le_of_ble_eq_true rfl) dX0_countReaders_25 (fun H65 _ hP hD hS' => ?_)
  have hG : s.heap.size + 0 ≤ H65.size := Nat.le_trans hG hS'.1
  have hS := va_Str hS hS'
  have hP : va_P (dC, dI) xCl [(h0, ce7 h1 o0 h2 o1), (h1, ce259 h3), (h2, ce3 z.1), (h3, ce258 kc0 h4 h5 h6 h7 h8 h9), (h4, ce38 (z.2.1 0) o2 h4), (h5, ce77 (z.2.1 0) o3 h5), (h6, ce115 (z.2.1 0) o4 h6), (h7, ce165 (z.2.1 0) o5 h7), (h8, ce224 (z.2.1 0) o6 h8), (h9, ce287 (z.2.1 0) o7 h9)] H65 := hP
  have hD := vd_as hP hD rfl
  refine lv_iinc (v := 5) (lv' := [(1, .int 5), (0, .ref h0)]) hx hb dX0_countReaders_28 hl (k := 0) rfl (by decide) (by decide) rfl (fun ls hl => ?_)
  refine lv_goto (tgt := 2) hx hb dX0_countReaders_31 (by decide) ?_
  refine lv_iload_n hx hb dX0_countReaders_2 rfl (lv_at hl 0 rfl) ?_
  refine lv_aload_n hx hb dX0_countReaders_3 rfl (lv_at hl 1 rfl) ?_
  refine va_get (D := (dC, dI)) (ci := 2) (v := .ref h1) (C := RX0) (T := TX0) (N := 4) hx hb hts in_X0 hown hK hP 0 rfl rfl 0 (by decide) (hts _ q_28) (fun _ h9 => h9) rfl dX0_countReaders_4 ?_
  have hM68 := k20_size l hl9 dC dI z h1 h3 H65.size 6 6
  obtain ⟨hF66, hC69⟩ := pc_M hM68 hP hD hK hS hX hT hA [1] [] rfl rfl rfl
  refine va_calli (va_runV (As := []) (rest := [.int 5]) ⟨hx, hb, hml, hown, hts⟩ hM68 (cwV 0 hts (gV q_92 q_77 q_78 q_12 q_75) rfl rfl rfl hV_Jx4a65c_size_8abf5 ⟨Nat.le_of_ble_eq_true rfl, Nat.le_of_ble_eq_true rfl⟩) ⟨pc_blind, va_recv hK hP (ci := 0) (q := (RJx4a65c, TJx4a65c, 3)) (q0 := 1) rfl rfl, fun U hU hW => ⟨rfl, hC69 U hU hW⟩⟩ rfl rfl hl.1 rfl (lv_room (Nat.le_of_ble_eq_true rfl)) dX0_countReaders_7 ⟨(Nat.le_of_ble_eq_true rfl), (Nat.le_of_ble_eq_true rfl)⟩) hS (fun q9 _ h9 => hF66 q9 h9) hF66 (fun r71 u70 t70 H70 L70 ht70 hvm70 hw70 hB70 hz70 hk70 hS => ?_)
  have hP := pq_keep hP hD [1] rfl hk70 hB70.1 ht70
  have hG : s.heap.size + 0 ≤ H70.size := Nat.le_trans hG hz70
  refine W.eq (g2 := F0 m 10 ls [.int 6, .int 5]) (by rw [hw70]) ?_
  refine lv_icmp_ge (tgt := 34) hx hb dX0_countReaders_10 (by decide) (fun cz => absurd cz (by decide)) (fun _ => ?_)
  refine lv_aload_n hx hb dX0_countReaders_13 rfl (lv_at hl 1 rfl) ?_
  refine va_get (D := (dC, dI)) (ci := 2) (v := .ref h1) (C := RX0) (T := TX0) (N := 4) hx hb hts in_X0 hown hK hP 0 rfl rfl 0 (by decide) (hts _ q_28) (fun _ h9 => h9) rfl dX0_countReaders_14 ?_
  refine lv_iload_n hx hb dX0_countReaders_17 rfl (lv_at hl 0 rfl) ?_
  have hM74 := k512_get l hl9 dC dI z h1 h3 h4 h5 h6 h7 h8 h9 H70.size kc0
  obtain ⟨hF72, hC75⟩ := pc_M hM74 hP hD hK hS hX hT hA [1, 3] [0] rfl rfl rfl
  refine va_callr (va_runV (As := [.int 5]) (rest := []) ⟨hx, hb, hml, hown, hts⟩ hM74 (cwV 1 hts (gV q_156 q_157 q_158 q_12 q_155) rfl rfl rfl hV_Jx4a65c_get_915e3 ⟨Nat.le_of_ble_eq_true rfl, Nat.le_of_ble_eq_true rfl⟩) ⟨pc_blind, va_recv hK hP (ci := 0) (q := (RJx4a65c, TJx4a65c, 3)) (q0 := 1) rfl rfl, fun U hU hW => ⟨rfl, hC75 U hU hW⟩⟩ rfl rfl hl.1 rfl (lv_room (Nat.le_of_ble_eq_true rfl)) dX0_countReaders_18 ⟨(Nat.le_of_ble_eq_true rfl), (Nat.le_of_ble_eq_true rfl)⟩) hS (fun q9 _ h9 => hF72 q9 h9) hF72 (fun u76 r77 t76 H76 L76 ht76 hvm76 hw76 hB76 hz76 hk76 hS => ?_)
  obtain ⟨hr76, hB76⟩ := hB76
  have hP := pq_keep hP hD [1, 3] rfl hk76 hB76.1 ht76
  have hG : s.heap.size + 0 ≤ H76.size := Nat.le_trans hG hz76
  refine W.eq (g2 := F0 m 21 ls [.ref h9]) (by rw [hr76]) ?_
  refine va_castE (nm := RX2) hx hb hown (hts _ q_89) (va_recv hK hP (ci := 3) (q := (RX2, TX2, 19)) (q0 := 9) rfl rfl) dX0_countReaders_21 ?_
  refine lv_iconst (v := 0) hx hb dX0_countReaders_24 (by decide) ?_
  refine va_put (D := (dC, dI)) (ci := 3) (v := .int 0) (ty := .int) (C := RX2) (T := TX2) (N := 19) hx hb hts in_X2 tyX2 tyX2_ok nmX2 hown hK hP hD (va_Sre hS) 9 rfl rfl 13 (by decide) (hts _ q_173) (fun _ h9 => h9) rfl (by decide +kernel) rfl rfl (Nat.le_of_ble_eq_true rfl) dX0_countReaders_25 (fun H78 _ hP hD hS' => ?_)
  have hG : s.heap.size + 0 ≤ H78.size := Nat.le_trans hG hS'.1
  have hS := va_Str hS hS'
  have hP : va_P (dC, dI) xCl [(h0, ce7 h1 o0 h2 o1), (h1, ce259 h3), (h2, ce3 z.1), (h3, ce258 kc0 h4 h5 h6 h7 h8 h9), (h4, ce38 (z.2.1 0) o2 h4), (h5, ce77 (z.2.1 0) o3 h5), (h6, ce115 (z.2.1 0) o4 h6), (h7, ce165 (z.2.1 0) o5 h7), (h8, ce224 (z.2.1 0) o6 h8), (h9, ce287 (z.2.1 0) o7 h9)] H78 := hP
  have hD := vd_as hP hD rfl
  refine lv_iinc (v := 6) (lv' := [(1, .int 6), (0, .ref h0)]) hx hb dX0_countReaders_28 hl (k := 0) rfl (by decide) (by decide) rfl (fun ls hl => ?_)
  refine lv_goto (tgt := 2) hx hb dX0_countReaders_31 (by decide) ?_
  refine lv_iload_n hx hb dX0_countReaders_2 rfl (lv_at hl 0 rfl) ?_
  refine lv_aload_n hx hb dX0_countReaders_3 rfl (lv_at hl 1 rfl) ?_
  refine va_get (D := (dC, dI)) (ci := 2) (v := .ref h1) (C := RX0) (T := TX0) (N := 4) hx hb hts in_X0 hown hK hP 0 rfl rfl 0 (by decide) (hts _ q_28) (fun _ h9 => h9) rfl dX0_countReaders_4 ?_
  have hM81 := k20_size l hl9 dC dI z h1 h3 H78.size 6 6
  obtain ⟨hF79, hC82⟩ := pc_M hM81 hP hD hK hS hX hT hA [1] [] rfl rfl rfl
  refine va_calli (va_runV (As := []) (rest := [.int 6]) ⟨hx, hb, hml, hown, hts⟩ hM81 (cwV 0 hts (gV q_92 q_77 q_78 q_12 q_75) rfl rfl rfl hV_Jx4a65c_size_8abf5 ⟨Nat.le_of_ble_eq_true rfl, Nat.le_of_ble_eq_true rfl⟩) ⟨pc_blind, va_recv hK hP (ci := 0) (q := (RJx4a65c, TJx4a65c, 3)) (q0 := 1) rfl rfl, fun U hU hW => ⟨rfl, hC82 U hU hW⟩⟩ rfl rfl hl.1 rfl (lv_room (Nat.le_of_ble_eq_true rfl)) dX0_countReaders_7 ⟨(Nat.le_of_ble_eq_true rfl), (Nat.le_of_ble_eq_true rfl)⟩) hS (fun q9 _ h9 => hF79 q9 h9) hF79 (fun r84 u83 t83 H83 L83 ht83 hvm83 hw83 hB83 hz83 hk83 hS => ?_)
  have hP := pq_keep hP hD [1] rfl hk83 hB83.1 ht83
  have hG : s.heap.size + 0 ≤ H83.size := Nat.le_trans hG hz83
  refine W.eq (g2 := F0 m 10 ls [.int 6, .int 6]) (by rw [hw83]) ?_
  refine lv_icmp_ge (tgt := 34) hx hb dX0_countReaders_10 (by decide) (fun _ => ?_) (fun cz => absurd (by decide) cz)
  refine lv_iconst (v := 0) hx hb dX0_countReaders_34 (by decide) ?_
  refine lv_istore_n (lv' := [(1, .int 0), (0, .ref h0)]) hx hb dX0_countReaders_35 rfl hl (by decide) rfl (fun ls hl => ?_)
  refine lv_iload_n hx hb dX0_countReaders_36 rfl (lv_at hl 0 rfl) ?_
  refine lv_aload_n hx hb dX0_countReaders_37 rfl (lv_at hl 1 rfl) ?_
  refine va_get (D := (dC, dI)) (ci := 2) (v := .ref h2) (C := RX0) (T := TX0) (N := 4) hx hb hts in_X0 hown hK hP 0 rfl rfl 2 (by decide) (hts _ q_30) (fun _ h9 => h9) rfl dX0_countReaders_38 ?_
  have hM87 := k9_size l hl9 dC dI z h2 H83.size 0 0
  obtain ⟨hF85, hC88⟩ := pc_M hM87 hP hD hK hS hX hT hA [2] [] rfl rfl rfl
  refine va_calli (va_runV (As := []) (rest := [.int 0]) ⟨hx, hb, hml, hown, hts⟩ hM87 (cwV 0 hts (gV q_92 q_77 q_78 q_12 q_75) rfl rfl rfl hV_Jx4a65c_size_8abf5 ⟨Nat.le_of_ble_eq_true rfl, Nat.le_of_ble_eq_true rfl⟩) ⟨pc_blind, va_recv hK hP (ci := 0) (q := (RJx4a65c, TJx4a65c, 3)) (q0 := 2) rfl rfl, fun U hU hW => ⟨rfl, hC88 U hU hW⟩⟩ rfl rfl hl.1 rfl (lv_room (Nat.le_of_ble_eq_true rfl)) dX0_countReaders_41 ⟨(Nat.le_of_ble_eq_true rfl), (Nat.le_of_ble_eq_true rfl)⟩) hS (fun q9 _ h9 => hF85 q9 h9) hF85 (fun r90 u89 t89 H89 L89 ht89 hvm89 hw89 hB89 hz89 hk89 hS => ?_)
  have hP := pq_keep hP hD [2] rfl hk89 hB89.1 ht89
  have hG : s.heap.size + 0 ≤ H89.size := Nat.le_trans hG hz89
  refine W.eq (g2 := F0 m 44 ls [.int 0, .int 0]) (by rw [hw89]) ?_
  refine lv_icmp_ge (tgt := 102) hx hb dX0_countReaders_44 (by decide) (fun _ => ?_) (fun cz => absurd (by decide) cz)
  exact W.vret hx hb hr (fun t9 ht9 hW9 => ⟨⟨(), rfl, trivial, ⟨pq_mk2 hP hD hK [0, 1, 2, 3, 4, 5, 6, 7, 8, 9] [0] rfl rfl rfl ht9 hW9, by rw [ht9]; exact Nat.le_trans (Nat.add_le_add_left (Nat.le_of_ble_eq_true rfl) _) hG⟩⟩, hS.F ht9⟩) hS.2.2 dX0_countReaders_102

set_option maxHeartbeats 4000000 in
set_option maxRecDepth 100000 in
theorem k529_elementData (l : Launch) (hl9 : l.stackTraces = false) (dC : Nat → ClassId) (dI : Nat → Nat → Nat) (z : XZ) (h0 h1 : Nat) (o0 o1 o2 o3 o4 o5 : Nat) (sz : Nat) (kc0 : ClassId) : Met l yJx4a65c_elementData_915e3 (.code yJx4a65c_elementData_915e3 cJx4a65c_elementData_915e3 2 (some (.object "java/lang/Object")) :: wsL_law) ({ frames := 0, cells := 0, slots := 0, locals := 0 }) (va_Pc [.ref h0, .int 0] (PC (dC, dI) [(h0, ce289 h1), (h1, ce258 kc0 o0 o1 o2 o3 o4 o5)] [(kc0, .object "java/lang/Object")] sz z)) (va_Qr (fun (_ : Unit) => True) (fun (_ : Unit) (ra : Nat) (t : State) => ra = o0 ∧ PG (dC, dI) [(h0, ce289 h1), (h1, ce258 kc0 o0 o1 o2 o3 o4 o5)] [(kc0, .object "java/lang/Object")] (va_A [(h0, ce289 h1), (h1, ce258 kc0 o0 o1 o2 o3 o4 o5)] sz) sz 0 t) (va_A [(h0, ce289 h1), (h1, ce258 kc0 o0 o1 o2 o3 o4 o5)] sz)) 0 0 (va_A [(h0, ce289 h1), (h1, ce258 kc0 o0 o1 o2 o3 o4 o5)] sz) := by
  refine Met.ofW (cc := cJx4a65c_elementData_915e3) (maxL := 2) (ret := (some (.object "java/lang/Object"))) (by decide) rfl ?_
  intro p e s m args below meth c s₁ B hml hv
  obtain ⟨rfl, hsz, hP, hK, hD0, hX, hT⟩ := hv
  have hx := B.exec
  have hb := B.bytes
  have hr := B.returns
  have hts0 := atoms_spec (ws := .code yJx4a65c_elementData_915e3 cJx4a65c_elementData_915e3 2 (some (.object "java/lang/Object")) :: wsL_law) B.pre
  have hts := xTail hts0
  have hown : s.vm.findClass RJx4a65c = some m.cls := xown B.named rfl
  have hlocks := B.notSynchronized
  subst hsz
  have hD := hD0.self (sz := s.heap.size)
  generalize hAe : va_A [(h0, ce289 h1), (h1, ce258 kc0 o0 o1 o2 o3 o4 o5)] s.heap.size = A at hD hX ⊢
  have hA : ∀ q : Nat, s.heap.size ≤ q → A q := fun q h => by rw [← hAe]; exact Or.inr h
  have hS : va_S A s.heap s.heap [] := va_S.rf
  have hG : s.heap.size + 0 ≤ s.heap.size := Nat.le_refl _
  have hl := lv_entry ([.ref h0, .int 0]) (n := 2) (Nat.le_of_ble_eq_true rfl)
  rw [lg_entry_eq]
  generalize (lg_sl ([.ref h0, .int 0]) ++ List.replicate (2 - (lg_sl ([.ref h0, .int 0])).length) Slot.unset).toArray = ls at hl ⊢
  have hl : lv_has ls 2 [(0, .ref h0), (1, .int 0)] := hl
  refine lv_aload_n hx hb dJx4a65c_elementData_915e3_0 rfl (lv_at hl 0 rfl) ?_
  refine va_get (D := (dC, dI)) (ci := 0) (v := .ref h1) (C := RJx4a65c) (T := TJx4a65c) (N := 3) hx hb hts in_Jx4a65c hown hK hP 0 rfl rfl 1 (by decide) (hts _ q_24) (fun _ h9 => h9) rfl dJx4a65c_elementData_915e3_1 ?_
  refine lv_iload_n hx hb dJx4a65c_elementData_915e3_4 rfl (lv_at hl 1 rfl) ?_
  refine va_aldq hx hb hK hP 1 0 rfl rfl (i := 0) (by unfold vp_in; decide) dJx4a65c_elementData_915e3_5 ?_
  refine W.eq (g2 := F0 m 6 ls [.ref o0]) rfl ?_
  exact W.aret (v := .ref o0) hx hb hr (by first | exact Or.inl ⟨_, rfl⟩ | exact Or.inr ⟨_, rfl⟩) (Or.inr ⟨_, rfl⟩) (fun t9 ht9 hW9 => ⟨⟨(), o0, rfl, trivial, ⟨rfl, ⟨pq_mk2 hP hD hK [0, 1] [0] rfl rfl rfl ht9 hW9, by rw [ht9]; exact Nat.le_trans (Nat.add_le_add_left (Nat.le_of_ble_eq_true rfl) _) hG⟩⟩⟩, hS.F ht9⟩) hS.2.2 dJx4a65c_elementData_915e3_6

set_option maxHeartbeats 4000000 in
set_option maxRecDepth 100000 in
theorem k530_get (l : Launch) (hl9 : l.stackTraces = false) (dC : Nat → ClassId) (dI : Nat → Nat → Nat) (z : XZ) (h0 h1 : Nat) (o0 o1 o2 o3 o4 o5 : Nat) (sz : Nat) (kc0 : ClassId) : Met l yJx4a65c_get_915e3 (.code yJx4a65c_get_915e3 cJx4a65c_get_915e3 2 (some (.object "java/lang/Object")) :: wsL_law) ({ frames := 2, cells := 0, slots := 0, locals := 43 }) (va_Pc [.ref h0, .int 0] (PC (dC, dI) [(h0, ce289 h1), (h1, ce258 kc0 o0 o1 o2 o3 o4 o5)] [(kc0, .object "java/lang/Object")] sz z)) (va_Qr (fun (_ : Unit) => True) (fun (_ : Unit) (ra : Nat) (t : State) => ra = o0 ∧ PG (dC, dI) [(h0, ce289 h1), (h1, ce258 kc0 o0 o1 o2 o3 o4 o5)] [(kc0, .object "java/lang/Object")] (va_A [(h0, ce289 h1), (h1, ce258 kc0 o0 o1 o2 o3 o4 o5)] sz) sz 0 t) (va_A [(h0, ce289 h1), (h1, ce258 kc0 o0 o1 o2 o3 o4 o5)] sz)) 0 0 (va_A [(h0, ce289 h1), (h1, ce258 kc0 o0 o1 o2 o3 o4 o5)] sz) := by
  refine Met.ofW (cc := cJx4a65c_get_915e3) (maxL := 2) (ret := (some (.object "java/lang/Object"))) (by decide) rfl ?_
  intro p e s m args below meth c s₁ B hml hv
  obtain ⟨rfl, hsz, hP, hK, hD0, hX, hT⟩ := hv
  have hx := B.exec
  have hb := B.bytes
  have hr := B.returns
  have hts0 := atoms_spec (ws := .code yJx4a65c_get_915e3 cJx4a65c_get_915e3 2 (some (.object "java/lang/Object")) :: wsL_law) B.pre
  have hts := xTail hts0
  have hown : s.vm.findClass RJx4a65c = some m.cls := xown B.named rfl
  have hlocks := B.notSynchronized
  subst hsz
  have hD := hD0.self (sz := s.heap.size)
  generalize hAe : va_A [(h0, ce289 h1), (h1, ce258 kc0 o0 o1 o2 o3 o4 o5)] s.heap.size = A at hD hX ⊢
  have hA : ∀ q : Nat, s.heap.size ≤ q → A q := fun q h => by rw [← hAe]; exact Or.inr h
  have hS : va_S A s.heap s.heap [] := va_S.rf
  have hG : s.heap.size + 0 ≤ s.heap.size := Nat.le_refl _
  have hl := lv_entry ([.ref h0, .int 0]) (n := 2) (Nat.le_of_ble_eq_true rfl)
  rw [lg_entry_eq]
  generalize (lg_sl ([.ref h0, .int 0]) ++ List.replicate (2 - (lg_sl ([.ref h0, .int 0])).length) Slot.unset).toArray = ls at hl ⊢
  have hl : lv_has ls 2 [(0, .ref h0), (1, .int 0)] := hl
  refine lv_iload_n hx hb dJx4a65c_get_915e3_0 rfl (lv_at hl 1 rfl) ?_
  refine lv_aload_n hx hb dJx4a65c_get_915e3_1 rfl (lv_at hl 0 rfl) ?_
  refine va_get (D := (dC, dI)) (ci := 0) (v := .int 6) (C := RJx4a65c) (T := TJx4a65c) (N := 3) hx hb hts in_Jx4a65c hown hK hP 0 rfl rfl 2 (by decide) (hts _ q_74) (fun _ h9 => h9) rfl dJx4a65c_get_915e3_2 ?_
  have hM3 := k490_checkIndex l hl9 dC dI z s.heap.size
  obtain ⟨hF1, hC4⟩ := pc_M hM3 hP hD hK hS hX hT hA [] [] rfl rfl rfl
  refine va_calli (va_runS (As := [.int 0, .int 6]) (rest := []) ⟨hx, hb, hml, hown, hts⟩ hM3 (va_cwS 2 hts (gS q_148 q_149 q_150 q_147) rfl rfl rfl hS_J15_checkIndex_7cf53 ⟨Nat.le_of_ble_eq_true rfl, Nat.le_of_ble_eq_true rfl⟩) ⟨pc_blind, fun U hU hW => ⟨rfl, hC4 U hU hW⟩⟩ rfl rfl hl.1 rfl (lv_room (Nat.le_of_ble_eq_true rfl)) dJx4a65c_get_915e3_5 ⟨(Nat.le_of_ble_eq_true rfl), (Nat.le_of_ble_eq_true rfl)⟩) hS (fun q9 _ h9 => hF1 q9 h9) hF1 (fun r6 u5 t5 H5 L5 ht5 hvm5 hw5 hB5 hz5 hk5 hS => ?_)
  have hP := pq_keep hP hD [] rfl hk5 hB5.1 ht5
  have hG : s.heap.size + 0 ≤ H5.size := Nat.le_trans hG hz5
  refine W.eq (g2 := F0 m 8 ls [.int 0]) (by rw [hw5]) ?_
  refine lv_pop hx hb dJx4a65c_get_915e3_8 rfl ?_
  refine lv_aload_n hx hb dJx4a65c_get_915e3_9 rfl (lv_at hl 0 rfl) ?_
  refine lv_iload_n hx hb dJx4a65c_get_915e3_10 rfl (lv_at hl 1 rfl) ?_
  have hM9 := k529_elementData l hl9 dC dI z h0 h1 o0 o1 o2 o3 o4 o5 H5.size kc0
  obtain ⟨hF7, hC10⟩ := pc_M hM9 hP hD hK hS hX hT hA [0, 1] [0] rfl rfl rfl
  refine va_callr (va_runV (As := [.int 0]) (rest := []) ⟨hx, hb, hml, hown, hts⟩ hM9 (cwV 1 hts (gV q_152 q_153 q_154 q_12 q_151) rfl rfl rfl hV_Jx4a65c_elementData_915e3 ⟨Nat.le_of_ble_eq_true rfl, Nat.le_of_ble_eq_true rfl⟩) ⟨pc_blind, va_recv hK hP (ci := 0) (q := (RJx4a65c, TJx4a65c, 3)) (q0 := 0) rfl rfl, fun U hU hW => ⟨rfl, hC10 U hU hW⟩⟩ rfl rfl hl.1 rfl (lv_room (Nat.le_of_ble_eq_true rfl)) dJx4a65c_get_915e3_11 ⟨(Nat.le_of_ble_eq_true rfl), (Nat.le_of_ble_eq_true rfl)⟩) hS (fun q9 _ h9 => hF7 q9 h9) hF7 (fun u11 r12 t11 H11 L11 ht11 hvm11 hw11 hB11 hz11 hk11 hS => ?_)
  obtain ⟨hr11, hB11⟩ := hB11
  have hP := pq_keep hP hD [0, 1] rfl hk11 hB11.1 ht11
  have hG : s.heap.size + 0 ≤ H11.size := Nat.le_trans hG hz11
  refine W.eq (g2 := F0 m 14 ls [.ref o0]) (by rw [hr11]) ?_
  exact W.aret (v := .ref o0) hx hb hr (by first | exact Or.inl ⟨_, rfl⟩ | exact Or.inr ⟨_, rfl⟩) (Or.inr ⟨_, rfl⟩) (fun t9 ht9 hW9 => ⟨⟨(), o0, rfl, trivial, ⟨rfl, ⟨pq_mk2 hP hD hK [0, 1] [0] rfl rfl rfl ht9 hW9, by rw [ht9]; exact Nat.le_trans (Nat.add_le_add_left (Nat.le_of_ble_eq_true rfl) _) hG⟩⟩⟩, hS.F ht9⟩) hS.2.2 dJx4a65c_get_915e3_14

set_option maxHeartbeats 4000000 in
set_option maxRecDepth 100000 in
theorem k531_elementData (l : Launch) (hl9 : l.stackTraces = false) (dC : Nat → ClassId) (dI : Nat → Nat → Nat) (z : XZ) (h0 h1 : Nat) (o0 o1 o2 o3 o4 o5 : Nat) (sz : Nat) (kc0 : ClassId) : Met l yJx4a65c_elementData_915e3 (.code yJx4a65c_elementData_915e3 cJx4a65c_elementData_915e3 2 (some (.object "java/lang/Object")) :: wsL_law) ({ frames := 0, cells := 0, slots := 0, locals := 0 }) (va_Pc [.ref h0, .int 1] (PC (dC, dI) [(h0, ce289 h1), (h1, ce258 kc0 o0 o1 o2 o3 o4 o5)] [(kc0, .object "java/lang/Object")] sz z)) (va_Qr (fun (_ : Unit) => True) (fun (_ : Unit) (ra : Nat) (t : State) => ra = o1 ∧ PG (dC, dI) [(h0, ce289 h1), (h1, ce258 kc0 o0 o1 o2 o3 o4 o5)] [(kc0, .object "java/lang/Object")] (va_A [(h0, ce289 h1), (h1, ce258 kc0 o0 o1 o2 o3 o4 o5)] sz) sz 0 t) (va_A [(h0, ce289 h1), (h1, ce258 kc0 o0 o1 o2 o3 o4 o5)] sz)) 0 0 (va_A [(h0, ce289 h1), (h1, ce258 kc0 o0 o1 o2 o3 o4 o5)] sz) := by
  refine Met.ofW (cc := cJx4a65c_elementData_915e3) (maxL := 2) (ret := (some (.object "java/lang/Object"))) (by decide) rfl ?_
  intro p e s m args below meth c s₁ B hml hv
  obtain ⟨rfl, hsz, hP, hK, hD0, hX, hT⟩ := hv
  have hx := B.exec
  have hb := B.bytes
  have hr := B.returns
  have hts0 := atoms_spec (ws := .code yJx4a65c_elementData_915e3 cJx4a65c_elementData_915e3 2 (some (.object "java/lang/Object")) :: wsL_law) B.pre
  have hts := xTail hts0
  have hown : s.vm.findClass RJx4a65c = some m.cls := xown B.named rfl
  have hlocks := B.notSynchronized
  subst hsz
  have hD := hD0.self (sz := s.heap.size)
  generalize hAe : va_A [(h0, ce289 h1), (h1, ce258 kc0 o0 o1 o2 o3 o4 o5)] s.heap.size = A at hD hX ⊢
  have hA : ∀ q : Nat, s.heap.size ≤ q → A q := fun q h => by rw [← hAe]; exact Or.inr h
  have hS : va_S A s.heap s.heap [] := va_S.rf
  have hG : s.heap.size + 0 ≤ s.heap.size := Nat.le_refl _
  have hl := lv_entry ([.ref h0, .int 1]) (n := 2) (Nat.le_of_ble_eq_true rfl)
  rw [lg_entry_eq]
  generalize (lg_sl ([.ref h0, .int 1]) ++ List.replicate (2 - (lg_sl ([.ref h0, .int 1])).length) Slot.unset).toArray = ls at hl ⊢
  have hl : lv_has ls 2 [(0, .ref h0), (1, .int 1)] := hl
  refine lv_aload_n hx hb dJx4a65c_elementData_915e3_0 rfl (lv_at hl 0 rfl) ?_
  refine va_get (D := (dC, dI)) (ci := 0) (v := .ref h1) (C := RJx4a65c) (T := TJx4a65c) (N := 3) hx hb hts in_Jx4a65c hown hK hP 0 rfl rfl 1 (by decide) (hts _ q_24) (fun _ h9 => h9) rfl dJx4a65c_elementData_915e3_1 ?_
  refine lv_iload_n hx hb dJx4a65c_elementData_915e3_4 rfl (lv_at hl 1 rfl) ?_
  refine va_aldq hx hb hK hP 1 0 rfl rfl (i := 1) (by unfold vp_in; decide) dJx4a65c_elementData_915e3_5 ?_
  refine W.eq (g2 := F0 m 6 ls [.ref o1]) rfl ?_
  exact W.aret (v := .ref o1) hx hb hr (by first | exact Or.inl ⟨_, rfl⟩ | exact Or.inr ⟨_, rfl⟩) (Or.inr ⟨_, rfl⟩) (fun t9 ht9 hW9 => ⟨⟨(), o1, rfl, trivial, ⟨rfl, ⟨pq_mk2 hP hD hK [0, 1] [0] rfl rfl rfl ht9 hW9, by rw [ht9]; exact Nat.le_trans (Nat.add_le_add_left (Nat.le_of_ble_eq_true rfl) _) hG⟩⟩⟩, hS.F ht9⟩) hS.2.2 dJx4a65c_elementData_915e3_6

set_option maxHeartbeats 4000000 in
set_option maxRecDepth 100000 in
theorem k532_get (l : Launch) (hl9 : l.stackTraces = false) (dC : Nat → ClassId) (dI : Nat → Nat → Nat) (z : XZ) (h0 h1 : Nat) (o0 o1 o2 o3 o4 o5 : Nat) (sz : Nat) (kc0 : ClassId) : Met l yJx4a65c_get_915e3 (.code yJx4a65c_get_915e3 cJx4a65c_get_915e3 2 (some (.object "java/lang/Object")) :: wsL_law) ({ frames := 2, cells := 0, slots := 0, locals := 43 }) (va_Pc [.ref h0, .int 1] (PC (dC, dI) [(h0, ce289 h1), (h1, ce258 kc0 o0 o1 o2 o3 o4 o5)] [(kc0, .object "java/lang/Object")] sz z)) (va_Qr (fun (_ : Unit) => True) (fun (_ : Unit) (ra : Nat) (t : State) => ra = o1 ∧ PG (dC, dI) [(h0, ce289 h1), (h1, ce258 kc0 o0 o1 o2 o3 o4 o5)] [(kc0, .object "java/lang/Object")] (va_A [(h0, ce289 h1), (h1, ce258 kc0 o0 o1 o2 o3 o4 o5)] sz) sz 0 t) (va_A [(h0, ce289 h1), (h1, ce258 kc0 o0 o1 o2 o3 o4 o5)] sz)) 0 0 (va_A [(h0, ce289 h1), (h1, ce258 kc0 o0 o1 o2 o3 o4 o5)] sz) := by
  refine Met.ofW (cc := cJx4a65c_get_915e3) (maxL := 2) (ret := (some (.object "java/lang/Object"))) (by decide) rfl ?_
  intro p e s m args below meth c s₁ B hml hv
  obtain ⟨rfl, hsz, hP, hK, hD0, hX, hT⟩ := hv
  have hx := B.exec
  have hb := B.bytes
  have hr := B.returns
  have hts0 := atoms_spec (ws := .code yJx4a65c_get_915e3 cJx4a65c_get_915e3 2 (some (.object "java/lang/Object")) :: wsL_law) B.pre
  have hts := xTail hts0
  have hown : s.vm.findClass RJx4a65c = some m.cls := xown B.named rfl
  have hlocks := B.notSynchronized
  subst hsz
  have hD := hD0.self (sz := s.heap.size)
  generalize hAe : va_A [(h0, ce289 h1), (h1, ce258 kc0 o0 o1 o2 o3 o4 o5)] s.heap.size = A at hD hX ⊢
  have hA : ∀ q : Nat, s.heap.size ≤ q → A q := fun q h => by rw [← hAe]; exact Or.inr h
  have hS : va_S A s.heap s.heap [] := va_S.rf
  have hG : s.heap.size + 0 ≤ s.heap.size := Nat.le_refl _
  have hl := lv_entry ([.ref h0, .int 1]) (n := 2) (Nat.le_of_ble_eq_true rfl)
  rw [lg_entry_eq]
  generalize (lg_sl ([.ref h0, .int 1]) ++ List.replicate (2 - (lg_sl ([.ref h0, .int 1])).length) Slot.unset).toArray = ls at hl ⊢
  have hl : lv_has ls 2 [(0, .ref h0), (1, .int 1)] := hl
  refine lv_iload_n hx hb dJx4a65c_get_915e3_0 rfl (lv_at hl 1 rfl) ?_
  refine lv_aload_n hx hb dJx4a65c_get_915e3_1 rfl (lv_at hl 0 rfl) ?_
  refine va_get (D := (dC, dI)) (ci := 0) (v := .int 6) (C := RJx4a65c) (T := TJx4a65c) (N := 3) hx hb hts in_Jx4a65c hown hK hP 0 rfl rfl 2 (by decide) (hts _ q_74) (fun _ h9 => h9) rfl dJx4a65c_get_915e3_2 ?_
  have hM3 := k494_checkIndex l hl9 dC dI z s.heap.size
  obtain ⟨hF1, hC4⟩ := pc_M hM3 hP hD hK hS hX hT hA [] [] rfl rfl rfl
  refine va_calli (va_runS (As := [.int 1, .int 6]) (rest := []) ⟨hx, hb, hml, hown, hts⟩ hM3 (va_cwS 2 hts (gS q_148 q_149 q_150 q_147) rfl rfl rfl hS_J15_checkIndex_7cf53 ⟨Nat.le_of_ble_eq_true rfl, Nat.le_of_ble_eq_true rfl⟩) ⟨pc_blind, fun U hU hW => ⟨rfl, hC4 U hU hW⟩⟩ rfl rfl hl.1 rfl (lv_room (Nat.le_of_ble_eq_true rfl)) dJx4a65c_get_915e3_5 ⟨(Nat.le_of_ble_eq_true rfl), (Nat.le_of_ble_eq_true rfl)⟩) hS (fun q9 _ h9 => hF1 q9 h9) hF1 (fun r6 u5 t5 H5 L5 ht5 hvm5 hw5 hB5 hz5 hk5 hS => ?_)
  have hP := pq_keep hP hD [] rfl hk5 hB5.1 ht5
  have hG : s.heap.size + 0 ≤ H5.size := Nat.le_trans hG hz5
  refine W.eq (g2 := F0 m 8 ls [.int 1]) (by rw [hw5]) ?_
  refine lv_pop hx hb dJx4a65c_get_915e3_8 rfl ?_
  refine lv_aload_n hx hb dJx4a65c_get_915e3_9 rfl (lv_at hl 0 rfl) ?_
  refine lv_iload_n hx hb dJx4a65c_get_915e3_10 rfl (lv_at hl 1 rfl) ?_
  have hM9 := k531_elementData l hl9 dC dI z h0 h1 o0 o1 o2 o3 o4 o5 H5.size kc0
  obtain ⟨hF7, hC10⟩ := pc_M hM9 hP hD hK hS hX hT hA [0, 1] [0] rfl rfl rfl
  refine va_callr (va_runV (As := [.int 1]) (rest := []) ⟨hx, hb, hml, hown, hts⟩ hM9 (cwV 1 hts (gV q_152 q_153 q_154 q_12 q_151) rfl rfl rfl hV_Jx4a65c_elementData_915e3 ⟨Nat.le_of_ble_eq_true rfl, Nat.le_of_ble_eq_true rfl⟩) ⟨pc_blind, va_recv hK hP (ci := 0) (q := (RJx4a65c, TJx4a65c, 3)) (q0 := 0) rfl rfl, fun U hU hW => ⟨rfl, hC10 U hU hW⟩⟩ rfl rfl hl.1 rfl (lv_room (Nat.le_of_ble_eq_true rfl)) dJx4a65c_get_915e3_11 ⟨(Nat.le_of_ble_eq_true rfl), (Nat.le_of_ble_eq_true rfl)⟩) hS (fun q9 _ h9 => hF7 q9 h9) hF7 (fun u11 r12 t11 H11 L11 ht11 hvm11 hw11 hB11 hz11 hk11 hS => ?_)
  obtain ⟨hr11, hB11⟩ := hB11
  have hP := pq_keep hP hD [0, 1] rfl hk11 hB11.1 ht11
  have hG : s.heap.size + 0 ≤ H11.size := Nat.le_trans hG hz11
  refine W.eq (g2 := F0 m 14 ls [.ref o1]) (by rw [hr11]) ?_
  exact W.aret (v := .ref o1) hx hb hr (by first | exact Or.inl ⟨_, rfl⟩ | exact Or.inr ⟨_, rfl⟩) (Or.inr ⟨_, rfl⟩) (fun t9 ht9 hW9 => ⟨⟨(), o1, rfl, trivial, ⟨rfl, ⟨pq_mk2 hP hD hK [0, 1] [0] rfl rfl rfl ht9 hW9, by rw [ht9]; exact Nat.le_trans (Nat.add_le_add_left (Nat.le_of_ble_eq_true rfl) _) hG⟩⟩⟩, hS.F ht9⟩) hS.2.2 dJx4a65c_get_915e3_14

set_option maxHeartbeats 4000000 in
set_option maxRecDepth 100000 in
theorem k533_elementData (l : Launch) (hl9 : l.stackTraces = false) (dC : Nat → ClassId) (dI : Nat → Nat → Nat) (z : XZ) (h0 h1 : Nat) (o0 o1 o2 o3 o4 o5 : Nat) (sz : Nat) (kc0 : ClassId) : Met l yJx4a65c_elementData_915e3 (.code yJx4a65c_elementData_915e3 cJx4a65c_elementData_915e3 2 (some (.object "java/lang/Object")) :: wsL_law) ({ frames := 0, cells := 0, slots := 0, locals := 0 }) (va_Pc [.ref h0, .int 2] (PC (dC, dI) [(h0, ce289 h1), (h1, ce258 kc0 o0 o1 o2 o3 o4 o5)] [(kc0, .object "java/lang/Object")] sz z)) (va_Qr (fun (_ : Unit) => True) (fun (_ : Unit) (ra : Nat) (t : State) => ra = o2 ∧ PG (dC, dI) [(h0, ce289 h1), (h1, ce258 kc0 o0 o1 o2 o3 o4 o5)] [(kc0, .object "java/lang/Object")] (va_A [(h0, ce289 h1), (h1, ce258 kc0 o0 o1 o2 o3 o4 o5)] sz) sz 0 t) (va_A [(h0, ce289 h1), (h1, ce258 kc0 o0 o1 o2 o3 o4 o5)] sz)) 0 0 (va_A [(h0, ce289 h1), (h1, ce258 kc0 o0 o1 o2 o3 o4 o5)] sz) := by
  refine Met.ofW (cc := cJx4a65c_elementData_915e3) (maxL := 2) (ret := (some (.object "java/lang/Object"))) (by decide) rfl ?_
  intro p e s m args below meth c s₁ B hml hv
  obtain ⟨rfl, hsz, hP, hK, hD0, hX, hT⟩ := hv
  have hx := B.exec
  have hb := B.bytes
  have hr := B.returns
  have hts0 := atoms_spec (ws := .code yJx4a65c_elementData_915e3 cJx4a65c_elementData_915e3 2 (some (.object "java/lang/Object")) :: wsL_law) B.pre
  have hts := xTail hts0
  have hown : s.vm.findClass RJx4a65c = some m.cls := xown B.named rfl
  have hlocks := B.notSynchronized
  subst hsz
  have hD := hD0.self (sz := s.heap.size)
  generalize hAe : va_A [(h0, ce289 h1), (h1, ce258 kc0 o0 o1 o2 o3 o4 o5)] s.heap.size = A at hD hX ⊢
  have hA : ∀ q : Nat, s.heap.size ≤ q → A q := fun q h => by rw [← hAe]; exact Or.inr h
  have hS : va_S A s.heap s.heap [] := va_S.rf
  have hG : s.heap.size + 0 ≤ s.heap.size := Nat.le_refl _
  have hl := lv_entry ([.ref h0, .int 2]) (n := 2) (Nat.le_of_ble_eq_true rfl)
  rw [lg_entry_eq]
  generalize (lg_sl ([.ref h0, .int 2]) ++ List.replicate (2 - (lg_sl ([.ref h0, .int 2])).length) Slot.unset).toArray = ls at hl ⊢
  have hl : lv_has ls 2 [(0, .ref h0), (1, .int 2)] := hl
  refine lv_aload_n hx hb dJx4a65c_elementData_915e3_0 rfl (lv_at hl 0 rfl) ?_
  refine va_get (D := (dC, dI)) (ci := 0) (v := .ref h1) (C := RJx4a65c) (T := TJx4a65c) (N := 3) hx hb hts in_Jx4a65c hown hK hP 0 rfl rfl 1 (by decide) (hts _ q_24) (fun _ h9 => h9) rfl dJx4a65c_elementData_915e3_1 ?_
  refine lv_iload_n hx hb dJx4a65c_elementData_915e3_4 rfl (lv_at hl 1 rfl) ?_
  refine va_aldq hx hb hK hP 1 0 rfl rfl (i := 2) (by unfold vp_in; decide) dJx4a65c_elementData_915e3_5 ?_
  refine W.eq (g2 := F0 m 6 ls [.ref o2]) rfl ?_
  exact W.aret (v := .ref o2) hx hb hr (by first | exact Or.inl ⟨_, rfl⟩ | exact Or.inr ⟨_, rfl⟩) (Or.inr ⟨_, rfl⟩) (fun t9 ht9 hW9 => ⟨⟨(), o2, rfl, trivial, ⟨rfl, ⟨pq_mk2 hP hD hK [0, 1] [0] rfl rfl rfl ht9 hW9, by rw [ht9]; exact Nat.le_trans (Nat.add_le_add_left (Nat.le_of_ble_eq_true rfl) _) hG⟩⟩⟩, hS.F ht9⟩) hS.2.2 dJx4a65c_elementData_915e3_6

set_option maxHeartbeats 4000000 in
set_option maxRecDepth 100000 in
theorem k534_get (l : Launch) (hl9 : l.stackTraces = false) (dC : Nat → ClassId) (dI : Nat → Nat → Nat) (z : XZ) (h0 h1 : Nat) (o0 o1 o2 o3 o4 o5 : Nat) (sz : Nat) (kc0 : ClassId) : Met l yJx4a65c_get_915e3 (.code yJx4a65c_get_915e3 cJx4a65c_get_915e3 2 (some (.object "java/lang/Object")) :: wsL_law) ({ frames := 2, cells := 0, slots := 0, locals := 43 }) (va_Pc [.ref h0, .int 2] (PC (dC, dI) [(h0, ce289 h1), (h1, ce258 kc0 o0 o1 o2 o3 o4 o5)] [(kc0, .object "java/lang/Object")] sz z)) (va_Qr (fun (_ : Unit) => True) (fun (_ : Unit) (ra : Nat) (t : State) => ra = o2 ∧ PG (dC, dI) [(h0, ce289 h1), (h1, ce258 kc0 o0 o1 o2 o3 o4 o5)] [(kc0, .object "java/lang/Object")] (va_A [(h0, ce289 h1), (h1, ce258 kc0 o0 o1 o2 o3 o4 o5)] sz) sz 0 t) (va_A [(h0, ce289 h1), (h1, ce258 kc0 o0 o1 o2 o3 o4 o5)] sz)) 0 0 (va_A [(h0, ce289 h1), (h1, ce258 kc0 o0 o1 o2 o3 o4 o5)] sz) := by
  refine Met.ofW (cc := cJx4a65c_get_915e3) (maxL := 2) (ret := (some (.object "java/lang/Object"))) (by decide) rfl ?_
  intro p e s m args below meth c s₁ B hml hv
  obtain ⟨rfl, hsz, hP, hK, hD0, hX, hT⟩ := hv
  have hx := B.exec
  have hb := B.bytes
  have hr := B.returns
  have hts0 := atoms_spec (ws := .code yJx4a65c_get_915e3 cJx4a65c_get_915e3 2 (some (.object "java/lang/Object")) :: wsL_law) B.pre
  have hts := xTail hts0
  have hown : s.vm.findClass RJx4a65c = some m.cls := xown B.named rfl
  have hlocks := B.notSynchronized
  subst hsz
  have hD := hD0.self (sz := s.heap.size)
  generalize hAe : va_A [(h0, ce289 h1), (h1, ce258 kc0 o0 o1 o2 o3 o4 o5)] s.heap.size = A at hD hX ⊢
  have hA : ∀ q : Nat, s.heap.size ≤ q → A q := fun q h => by rw [← hAe]; exact Or.inr h
  have hS : va_S A s.heap s.heap [] := va_S.rf
  have hG : s.heap.size + 0 ≤ s.heap.size := Nat.le_refl _
  have hl := lv_entry ([.ref h0, .int 2]) (n := 2) (Nat.le_of_ble_eq_true rfl)
  rw [lg_entry_eq]
  generalize (lg_sl ([.ref h0, .int 2]) ++ List.replicate (2 - (lg_sl ([.ref h0, .int 2])).length) Slot.unset).toArray = ls at hl ⊢
  have hl : lv_has ls 2 [(0, .ref h0), (1, .int 2)] := hl
  refine lv_iload_n hx hb dJx4a65c_get_915e3_0 rfl (lv_at hl 1 rfl) ?_
  refine lv_aload_n hx hb dJx4a65c_get_915e3_1 rfl (lv_at hl 0 rfl) ?_
  refine va_get (D := (dC, dI)) (ci := 0) (v := .int 6) (C := RJx4a65c) (T := TJx4a65c) (N := 3) hx hb hts in_Jx4a65c hown hK hP 0 rfl rfl 2 (by decide) (hts _ q_74) (fun _ h9 => h9) rfl dJx4a65c_get_915e3_2 ?_
  have hM3 := k498_checkIndex l hl9 dC dI z s.heap.size
  obtain ⟨hF1, hC4⟩ := pc_M hM3 hP hD hK hS hX hT hA [] [] rfl rfl rfl
  refine va_calli (va_runS (As := [.int 2, .int 6]) (rest := []) ⟨hx, hb, hml, hown, hts⟩ hM3 (va_cwS 2 hts (gS q_148 q_149 q_150 q_147) rfl rfl rfl hS_J15_checkIndex_7cf53 ⟨Nat.le_of_ble_eq_true rfl, Nat.le_of_ble_eq_true rfl⟩) ⟨pc_blind, fun U hU hW => ⟨rfl, hC4 U hU hW⟩⟩ rfl rfl hl.1 rfl (lv_room (Nat.le_of_ble_eq_true rfl)) dJx4a65c_get_915e3_5 ⟨(Nat.le_of_ble_eq_true rfl), (Nat.le_of_ble_eq_true rfl)⟩) hS (fun q9 _ h9 => hF1 q9 h9) hF1 (fun r6 u5 t5 H5 L5 ht5 hvm5 hw5 hB5 hz5 hk5 hS => ?_)
  have hP := pq_keep hP hD [] rfl hk5 hB5.1 ht5
  have hG : s.heap.size + 0 ≤ H5.size := Nat.le_trans hG hz5
  refine W.eq (g2 := F0 m 8 ls [.int 2]) (by rw [hw5]) ?_
  refine lv_pop hx hb dJx4a65c_get_915e3_8 rfl ?_
  refine lv_aload_n hx hb dJx4a65c_get_915e3_9 rfl (lv_at hl 0 rfl) ?_
  refine lv_iload_n hx hb dJx4a65c_get_915e3_10 rfl (lv_at hl 1 rfl) ?_
  have hM9 := k533_elementData l hl9 dC dI z h0 h1 o0 o1 o2 o3 o4 o5 H5.size kc0
  obtain ⟨hF7, hC10⟩ := pc_M hM9 hP hD hK hS hX hT hA [0, 1] [0] rfl rfl rfl
  refine va_callr (va_runV (As := [.int 2]) (rest := []) ⟨hx, hb, hml, hown, hts⟩ hM9 (cwV 1 hts (gV q_152 q_153 q_154 q_12 q_151) rfl rfl rfl hV_Jx4a65c_elementData_915e3 ⟨Nat.le_of_ble_eq_true rfl, Nat.le_of_ble_eq_true rfl⟩) ⟨pc_blind, va_recv hK hP (ci := 0) (q := (RJx4a65c, TJx4a65c, 3)) (q0 := 0) rfl rfl, fun U hU hW => ⟨rfl, hC10 U hU hW⟩⟩ rfl rfl hl.1 rfl (lv_room (Nat.le_of_ble_eq_true rfl)) dJx4a65c_get_915e3_11 ⟨(Nat.le_of_ble_eq_true rfl), (Nat.le_of_ble_eq_true rfl)⟩) hS (fun q9 _ h9 => hF7 q9 h9) hF7 (fun u11 r12 t11 H11 L11 ht11 hvm11 hw11 hB11 hz11 hk11 hS => ?_)
  obtain ⟨hr11, hB11⟩ := hB11
  have hP := pq_keep hP hD [0, 1] rfl hk11 hB11.1 ht11
  have hG : s.heap.size + 0 ≤ H11.size := Nat.le_trans hG hz11
  refine W.eq (g2 := F0 m 14 ls [.ref o2]) (by rw [hr11]) ?_
  exact W.aret (v := .ref o2) hx hb hr (by first | exact Or.inl ⟨_, rfl⟩ | exact Or.inr ⟨_, rfl⟩) (Or.inr ⟨_, rfl⟩) (fun t9 ht9 hW9 => ⟨⟨(), o2, rfl, trivial, ⟨rfl, ⟨pq_mk2 hP hD hK [0, 1] [0] rfl rfl rfl ht9 hW9, by rw [ht9]; exact Nat.le_trans (Nat.add_le_add_left (Nat.le_of_ble_eq_true rfl) _) hG⟩⟩⟩, hS.F ht9⟩) hS.2.2 dJx4a65c_get_915e3_14

set_option maxHeartbeats 4000000 in
set_option maxRecDepth 100000 in
theorem k535_elementData (l : Launch) (hl9 : l.stackTraces = false) (dC : Nat → ClassId) (dI : Nat → Nat → Nat) (z : XZ) (h0 h1 : Nat) (o0 o1 o2 o3 o4 o5 : Nat) (sz : Nat) (kc0 : ClassId) : Met l yJx4a65c_elementData_915e3 (.code yJx4a65c_elementData_915e3 cJx4a65c_elementData_915e3 2 (some (.object "java/lang/Object")) :: wsL_law) ({ frames := 0, cells := 0, slots := 0, locals := 0 }) (va_Pc [.ref h0, .int 3] (PC (dC, dI) [(h0, ce289 h1), (h1, ce258 kc0 o0 o1 o2 o3 o4 o5)] [(kc0, .object "java/lang/Object")] sz z)) (va_Qr (fun (_ : Unit) => True) (fun (_ : Unit) (ra : Nat) (t : State) => ra = o3 ∧ PG (dC, dI) [(h0, ce289 h1), (h1, ce258 kc0 o0 o1 o2 o3 o4 o5)] [(kc0, .object "java/lang/Object")] (va_A [(h0, ce289 h1), (h1, ce258 kc0 o0 o1 o2 o3 o4 o5)] sz) sz 0 t) (va_A [(h0, ce289 h1), (h1, ce258 kc0 o0 o1 o2 o3 o4 o5)] sz)) 0 0 (va_A [(h0, ce289 h1), (h1, ce258 kc0 o0 o1 o2 o3 o4 o5)] sz) := by
  refine Met.ofW (cc := cJx4a65c_elementData_915e3) (maxL := 2) (ret := (some (.object "java/lang/Object"))) (by decide) rfl ?_
  intro p e s m args below meth c s₁ B hml hv
  obtain ⟨rfl, hsz, hP, hK, hD0, hX, hT⟩ := hv
  have hx := B.exec
  have hb := B.bytes
  have hr := B.returns
  have hts0 := atoms_spec (ws := .code yJx4a65c_elementData_915e3 cJx4a65c_elementData_915e3 2 (some (.object "java/lang/Object")) :: wsL_law) B.pre
  have hts := xTail hts0
  have hown : s.vm.findClass RJx4a65c = some m.cls := xown B.named rfl
  have hlocks := B.notSynchronized
  subst hsz
  have hD := hD0.self (sz := s.heap.size)
  generalize hAe : va_A [(h0, ce289 h1), (h1, ce258 kc0 o0 o1 o2 o3 o4 o5)] s.heap.size = A at hD hX ⊢
  have hA : ∀ q : Nat, s.heap.size ≤ q → A q := fun q h => by rw [← hAe]; exact Or.inr h
  have hS : va_S A s.heap s.heap [] := va_S.rf
  have hG : s.heap.size + 0 ≤ s.heap.size := Nat.le_refl _
  have hl := lv_entry ([.ref h0, .int 3]) (n := 2) (Nat.le_of_ble_eq_true rfl)
  rw [lg_entry_eq]
  generalize (lg_sl ([.ref h0, .int 3]) ++ List.replicate (2 - (lg_sl ([.ref h0, .int 3])).length) Slot.unset).toArray = ls at hl ⊢
  have hl : lv_has ls 2 [(0, .ref h0), (1, .int 3)] := hl
  refine lv_aload_n hx hb dJx4a65c_elementData_915e3_0 rfl (lv_at hl 0 rfl) ?_
  refine va_get (D := (dC, dI)) (ci := 0) (v := .ref h1) (C := RJx4a65c) (T := TJx4a65c) (N := 3) hx hb hts in_Jx4a65c hown hK hP 0 rfl rfl 1 (by decide) (hts _ q_24) (fun _ h9 => h9) rfl dJx4a65c_elementData_915e3_1 ?_
  refine lv_iload_n hx hb dJx4a65c_elementData_915e3_4 rfl (lv_at hl 1 rfl) ?_
  refine va_aldq hx hb hK hP 1 0 rfl rfl (i := 3) (by unfold vp_in; decide) dJx4a65c_elementData_915e3_5 ?_
  refine W.eq (g2 := F0 m 6 ls [.ref o3]) rfl ?_
  exact W.aret (v := .ref o3) hx hb hr (by first | exact Or.inl ⟨_, rfl⟩ | exact Or.inr ⟨_, rfl⟩) (Or.inr ⟨_, rfl⟩) (fun t9 ht9 hW9 => ⟨⟨(), o3, rfl, trivial, ⟨rfl, ⟨pq_mk2 hP hD hK [0, 1] [0] rfl rfl rfl ht9 hW9, by rw [ht9]; exact Nat.le_trans (Nat.add_le_add_left (Nat.le_of_ble_eq_true rfl) _) hG⟩⟩⟩, hS.F ht9⟩) hS.2.2 dJx4a65c_elementData_915e3_6

set_option maxHeartbeats 4000000 in
set_option maxRecDepth 100000 in
theorem k536_get (l : Launch) (hl9 : l.stackTraces = false) (dC : Nat → ClassId) (dI : Nat → Nat → Nat) (z : XZ) (h0 h1 : Nat) (o0 o1 o2 o3 o4 o5 : Nat) (sz : Nat) (kc0 : ClassId) : Met l yJx4a65c_get_915e3 (.code yJx4a65c_get_915e3 cJx4a65c_get_915e3 2 (some (.object "java/lang/Object")) :: wsL_law) ({ frames := 2, cells := 0, slots := 0, locals := 43 }) (va_Pc [.ref h0, .int 3] (PC (dC, dI) [(h0, ce289 h1), (h1, ce258 kc0 o0 o1 o2 o3 o4 o5)] [(kc0, .object "java/lang/Object")] sz z)) (va_Qr (fun (_ : Unit) => True) (fun (_ : Unit) (ra : Nat) (t : State) => ra = o3 ∧ PG (dC, dI) [(h0, ce289 h1), (h1, ce258 kc0 o0 o1 o2 o3 o4 o5)] [(kc0, .object "java/lang/Object")] (va_A [(h0, ce289 h1), (h1, ce258 kc0 o0 o1 o2 o3 o4 o5)] sz) sz 0 t) (va_A [(h0, ce289 h1), (h1, ce258 kc0 o0 o1 o2 o3 o4 o5)] sz)) 0 0 (va_A [(h0, ce289 h1), (h1, ce258 kc0 o0 o1 o2 o3 o4 o5)] sz) := by
  refine Met.ofW (cc := cJx4a65c_get_915e3) (maxL := 2) (ret := (some (.object "java/lang/Object"))) (by decide) rfl ?_
  intro p e s m args below meth c s₁ B hml hv
  obtain ⟨rfl, hsz, hP, hK, hD0, hX, hT⟩ := hv
  have hx := B.exec
  have hb := B.bytes
  have hr := B.returns
  have hts0 := atoms_spec (ws := .code yJx4a65c_get_915e3 cJx4a65c_get_915e3 2 (some (.object "java/lang/Object")) :: wsL_law) B.pre
  have hts := xTail hts0
  have hown : s.vm.findClass RJx4a65c = some m.cls := xown B.named rfl
  have hlocks := B.notSynchronized
  subst hsz
  have hD := hD0.self (sz := s.heap.size)
  generalize hAe : va_A [(h0, ce289 h1), (h1, ce258 kc0 o0 o1 o2 o3 o4 o5)] s.heap.size = A at hD hX ⊢
  have hA : ∀ q : Nat, s.heap.size ≤ q → A q := fun q h => by rw [← hAe]; exact Or.inr h
  have hS : va_S A s.heap s.heap [] := va_S.rf
  have hG : s.heap.size + 0 ≤ s.heap.size := Nat.le_refl _
  have hl := lv_entry ([.ref h0, .int 3]) (n := 2) (Nat.le_of_ble_eq_true rfl)
  rw [lg_entry_eq]
  generalize (lg_sl ([.ref h0, .int 3]) ++ List.replicate (2 - (lg_sl ([.ref h0, .int 3])).length) Slot.unset).toArray = ls at hl ⊢
  have hl : lv_has ls 2 [(0, .ref h0), (1, .int 3)] := hl
  refine lv_iload_n hx hb dJx4a65c_get_915e3_0 rfl (lv_at hl 1 rfl) ?_
  refine lv_aload_n hx hb dJx4a65c_get_915e3_1 rfl (lv_at hl 0 rfl) ?_
  refine va_get (D := (dC, dI)) (ci := 0) (v := .int 6) (C := RJx4a65c) (T := TJx4a65c) (N := 3) hx hb hts in_Jx4a65c hown hK hP 0 rfl rfl 2 (by decide) (hts _ q_74) (fun _ h9 => h9) rfl dJx4a65c_get_915e3_2 ?_
  have hM3 := k502_checkIndex l hl9 dC dI z s.heap.size
  obtain ⟨hF1, hC4⟩ := pc_M hM3 hP hD hK hS hX hT hA [] [] rfl rfl rfl
  refine va_calli (va_runS (As := [.int 3, .int 6]) (rest := []) ⟨hx, hb, hml, hown, hts⟩ hM3 (va_cwS 2 hts (gS q_148 q_149 q_150 q_147) rfl rfl rfl hS_J15_checkIndex_7cf53 ⟨Nat.le_of_ble_eq_true rfl, Nat.le_of_ble_eq_true rfl⟩) ⟨pc_blind, fun U hU hW => ⟨rfl, hC4 U hU hW⟩⟩ rfl rfl hl.1 rfl (lv_room (Nat.le_of_ble_eq_true rfl)) dJx4a65c_get_915e3_5 ⟨(Nat.le_of_ble_eq_true rfl), (Nat.le_of_ble_eq_true rfl)⟩) hS (fun q9 _ h9 => hF1 q9 h9) hF1 (fun r6 u5 t5 H5 L5 ht5 hvm5 hw5 hB5 hz5 hk5 hS => ?_)
  have hP := pq_keep hP hD [] rfl hk5 hB5.1 ht5
  have hG : s.heap.size + 0 ≤ H5.size := Nat.le_trans hG hz5
  refine W.eq (g2 := F0 m 8 ls [.int 3]) (by rw [hw5]) ?_
  refine lv_pop hx hb dJx4a65c_get_915e3_8 rfl ?_
  refine lv_aload_n hx hb dJx4a65c_get_915e3_9 rfl (lv_at hl 0 rfl) ?_
  refine lv_iload_n hx hb dJx4a65c_get_915e3_10 rfl (lv_at hl 1 rfl) ?_
  have hM9 := k535_elementData l hl9 dC dI z h0 h1 o0 o1 o2 o3 o4 o5 H5.size kc0
  obtain ⟨hF7, hC10⟩ := pc_M hM9 hP hD hK hS hX hT hA [0, 1] [0] rfl rfl rfl
  refine va_callr (va_runV (As := [.int 3]) (rest := []) ⟨hx, hb, hml, hown, hts⟩ hM9 (cwV 1 hts (gV q_152 q_153 q_154 q_12 q_151) rfl rfl rfl hV_Jx4a65c_elementData_915e3 ⟨Nat.le_of_ble_eq_true rfl, Nat.le_of_ble_eq_true rfl⟩) ⟨pc_blind, va_recv hK hP (ci := 0) (q := (RJx4a65c, TJx4a65c, 3)) (q0 := 0) rfl rfl, fun U hU hW => ⟨rfl, hC10 U hU hW⟩⟩ rfl rfl hl.1 rfl (lv_room (Nat.le_of_ble_eq_true rfl)) dJx4a65c_get_915e3_11 ⟨(Nat.le_of_ble_eq_true rfl), (Nat.le_of_ble_eq_true rfl)⟩) hS (fun q9 _ h9 => hF7 q9 h9) hF7 (fun u11 r12 t11 H11 L11 ht11 hvm11 hw11 hB11 hz11 hk11 hS => ?_)
  obtain ⟨hr11, hB11⟩ := hB11
  have hP := pq_keep hP hD [0, 1] rfl hk11 hB11.1 ht11
  have hG : s.heap.size + 0 ≤ H11.size := Nat.le_trans hG hz11
  refine W.eq (g2 := F0 m 14 ls [.ref o3]) (by rw [hr11]) ?_
  exact W.aret (v := .ref o3) hx hb hr (by first | exact Or.inl ⟨_, rfl⟩ | exact Or.inr ⟨_, rfl⟩) (Or.inr ⟨_, rfl⟩) (fun t9 ht9 hW9 => ⟨⟨(), o3, rfl, trivial, ⟨rfl, ⟨pq_mk2 hP hD hK [0, 1] [0] rfl rfl rfl ht9 hW9, by rw [ht9]; exact Nat.le_trans (Nat.add_le_add_left (Nat.le_of_ble_eq_true rfl) _) hG⟩⟩⟩, hS.F ht9⟩) hS.2.2 dJx4a65c_get_915e3_14

set_option maxHeartbeats 4000000 in
set_option maxRecDepth 100000 in
theorem k537_elementData (l : Launch) (hl9 : l.stackTraces = false) (dC : Nat → ClassId) (dI : Nat → Nat → Nat) (z : XZ) (h0 h1 : Nat) (o0 o1 o2 o3 o4 o5 : Nat) (sz : Nat) (kc0 : ClassId) : Met l yJx4a65c_elementData_915e3 (.code yJx4a65c_elementData_915e3 cJx4a65c_elementData_915e3 2 (some (.object "java/lang/Object")) :: wsL_law) ({ frames := 0, cells := 0, slots := 0, locals := 0 }) (va_Pc [.ref h0, .int 4] (PC (dC, dI) [(h0, ce289 h1), (h1, ce258 kc0 o0 o1 o2 o3 o4 o5)] [(kc0, .object "java/lang/Object")] sz z)) (va_Qr (fun (_ : Unit) => True) (fun (_ : Unit) (ra : Nat) (t : State) => ra = o4 ∧ PG (dC, dI) [(h0, ce289 h1), (h1, ce258 kc0 o0 o1 o2 o3 o4 o5)] [(kc0, .object "java/lang/Object")] (va_A [(h0, ce289 h1), (h1, ce258 kc0 o0 o1 o2 o3 o4 o5)] sz) sz 0 t) (va_A [(h0, ce289 h1), (h1, ce258 kc0 o0 o1 o2 o3 o4 o5)] sz)) 0 0 (va_A [(h0, ce289 h1), (h1, ce258 kc0 o0 o1 o2 o3 o4 o5)] sz) := by
  refine Met.ofW (cc := cJx4a65c_elementData_915e3) (maxL := 2) (ret := (some (.object "java/lang/Object"))) (by decide) rfl ?_
  intro p e s m args below meth c s₁ B hml hv
  obtain ⟨rfl, hsz, hP, hK, hD0, hX, hT⟩ := hv
  have hx := B.exec
  have hb := B.bytes
  have hr := B.returns
  have hts0 := atoms_spec (ws := .code yJx4a65c_elementData_915e3 cJx4a65c_elementData_915e3 2 (some (.object "java/lang/Object")) :: wsL_law) B.pre
  have hts := xTail hts0
  have hown : s.vm.findClass RJx4a65c = some m.cls := xown B.named rfl
  have hlocks := B.notSynchronized
  subst hsz
  have hD := hD0.self (sz := s.heap.size)
  generalize hAe : va_A [(h0, ce289 h1), (h1, ce258 kc0 o0 o1 o2 o3 o4 o5)] s.heap.size = A at hD hX ⊢
  have hA : ∀ q : Nat, s.heap.size ≤ q → A q := fun q h => by rw [← hAe]; exact Or.inr h
  have hS : va_S A s.heap s.heap [] := va_S.rf
  have hG : s.heap.size + 0 ≤ s.heap.size := Nat.le_refl _
  have hl := lv_entry ([.ref h0, .int 4]) (n := 2) (Nat.le_of_ble_eq_true rfl)
  rw [lg_entry_eq]
  generalize (lg_sl ([.ref h0, .int 4]) ++ List.replicate (2 - (lg_sl ([.ref h0, .int 4])).length) Slot.unset).toArray = ls at hl ⊢
  have hl : lv_has ls 2 [(0, .ref h0), (1, .int 4)] := hl
  refine lv_aload_n hx hb dJx4a65c_elementData_915e3_0 rfl (lv_at hl 0 rfl) ?_
  refine va_get (D := (dC, dI)) (ci := 0) (v := .ref h1) (C := RJx4a65c) (T := TJx4a65c) (N := 3) hx hb hts in_Jx4a65c hown hK hP 0 rfl rfl 1 (by decide) (hts _ q_24) (fun _ h9 => h9) rfl dJx4a65c_elementData_915e3_1 ?_
  refine lv_iload_n hx hb dJx4a65c_elementData_915e3_4 rfl (lv_at hl 1 rfl) ?_
  refine va_aldq hx hb hK hP 1 0 rfl rfl (i := 4) (by unfold vp_in; decide) dJx4a65c_elementData_915e3_5 ?_
  refine W.eq (g2 := F0 m 6 ls [.ref o4]) rfl ?_
  exact W.aret (v := .ref o4) hx hb hr (by first | exact Or.inl ⟨_, rfl⟩ | exact Or.inr ⟨_, rfl⟩) (Or.inr ⟨_, rfl⟩) (fun t9 ht9 hW9 => ⟨⟨(), o4, rfl, trivial, ⟨rfl, ⟨pq_mk2 hP hD hK [0, 1] [0] rfl rfl rfl ht9 hW9, by rw [ht9]; exact Nat.le_trans (Nat.add_le_add_left (Nat.le_of_ble_eq_true rfl) _) hG⟩⟩⟩, hS.F ht9⟩) hS.2.2 dJx4a65c_elementData_915e3_6

set_option maxHeartbeats 4000000 in
set_option maxRecDepth 100000 in
theorem k538_get (l : Launch) (hl9 : l.stackTraces = false) (dC : Nat → ClassId) (dI : Nat → Nat → Nat) (z : XZ) (h0 h1 : Nat) (o0 o1 o2 o3 o4 o5 : Nat) (sz : Nat) (kc0 : ClassId) : Met l yJx4a65c_get_915e3 (.code yJx4a65c_get_915e3 cJx4a65c_get_915e3 2 (some (.object "java/lang/Object")) :: wsL_law) ({ frames := 2, cells := 0, slots := 0, locals := 43 }) (va_Pc [.ref h0, .int 4] (PC (dC, dI) [(h0, ce289 h1), (h1, ce258 kc0 o0 o1 o2 o3 o4 o5)] [(kc0, .object "java/lang/Object")] sz z)) (va_Qr (fun (_ : Unit) => True) (fun (_ : Unit) (ra : Nat) (t : State) => ra = o4 ∧ PG (dC, dI) [(h0, ce289 h1), (h1, ce258 kc0 o0 o1 o2 o3 o4 o5)] [(kc0, .object "java/lang/Object")] (va_A [(h0, ce289 h1), (h1, ce258 kc0 o0 o1 o2 o3 o4 o5)] sz) sz 0 t) (va_A [(h0, ce289 h1), (h1, ce258 kc0 o0 o1 o2 o3 o4 o5)] sz)) 0 0 (va_A [(h0, ce289 h1), (h1, ce258 kc0 o0 o1 o2 o3 o4 o5)] sz) := by
  refine Met.ofW (cc := cJx4a65c_get_915e3) (maxL := 2) (ret := (some (.object "java/lang/Object"))) (by decide) rfl ?_
  intro p e s m args below meth c s₁ B hml hv
  obtain ⟨rfl, hsz, hP, hK, hD0, hX, hT⟩ := hv
  have hx := B.exec
  have hb := B.bytes
  have hr := B.returns
  have hts0 := atoms_spec (ws := .code yJx4a65c_get_915e3 cJx4a65c_get_915e3 2 (some (.object "java/lang/Object")) :: wsL_law) B.pre
  have hts := xTail hts0
  have hown : s.vm.findClass RJx4a65c = some m.cls := xown B.named rfl
  have hlocks := B.notSynchronized
  subst hsz
  have hD := hD0.self (sz := s.heap.size)
  generalize hAe : va_A [(h0, ce289 h1), (h1, ce258 kc0 o0 o1 o2 o3 o4 o5)] s.heap.size = A at hD hX ⊢
  have hA : ∀ q : Nat, s.heap.size ≤ q → A q := fun q h => by rw [← hAe]; exact Or.inr h
  have hS : va_S A s.heap s.heap [] := va_S.rf
  have hG : s.heap.size + 0 ≤ s.heap.size := Nat.le_refl _
  have hl := lv_entry ([.ref h0, .int 4]) (n := 2) (Nat.le_of_ble_eq_true rfl)
  rw [lg_entry_eq]
  generalize (lg_sl ([.ref h0, .int 4]) ++ List.replicate (2 - (lg_sl ([.ref h0, .int 4])).length) Slot.unset).toArray = ls at hl ⊢
  have hl : lv_has ls 2 [(0, .ref h0), (1, .int 4)] := hl
  refine lv_iload_n hx hb dJx4a65c_get_915e3_0 rfl (lv_at hl 1 rfl) ?_
  refine lv_aload_n hx hb dJx4a65c_get_915e3_1 rfl (lv_at hl 0 rfl) ?_
  refine va_get (D := (dC, dI)) (ci := 0) (v := .int 6) (C := RJx4a65c) (T := TJx4a65c) (N := 3) hx hb hts in_Jx4a65c hown hK hP 0 rfl rfl 2 (by decide) (hts _ q_74) (fun _ h9 => h9) rfl dJx4a65c_get_915e3_2 ?_
  have hM3 := k506_checkIndex l hl9 dC dI z s.heap.size
  obtain ⟨hF1, hC4⟩ := pc_M hM3 hP hD hK hS hX hT hA [] [] rfl rfl rfl
  refine va_calli (va_runS (As := [.int 4, .int 6]) (rest := []) ⟨hx, hb, hml, hown, hts⟩ hM3 (va_cwS 2 hts (gS q_148 q_149 q_150 q_147) rfl rfl rfl hS_J15_checkIndex_7cf53 ⟨Nat.le_of_ble_eq_true rfl, Nat.le_of_ble_eq_true rfl⟩) ⟨pc_blind, fun U hU hW => ⟨rfl, hC4 U hU hW⟩⟩ rfl rfl hl.1 rfl (lv_room (Nat.le_of_ble_eq_true rfl)) dJx4a65c_get_915e3_5 ⟨(Nat.le_of_ble_eq_true rfl), (Nat.le_of_ble_eq_true rfl)⟩) hS (fun q9 _ h9 => hF1 q9 h9) hF1 (fun r6 u5 t5 H5 L5 ht5 hvm5 hw5 hB5 hz5 hk5 hS => ?_)
  have hP := pq_keep hP hD [] rfl hk5 hB5.1 ht5
  have hG : s.heap.size + 0 ≤ H5.size := Nat.le_trans hG hz5
  refine W.eq (g2 := F0 m 8 ls [.int 4]) (by rw [hw5]) ?_
  refine lv_pop hx hb dJx4a65c_get_915e3_8 rfl ?_
  refine lv_aload_n hx hb dJx4a65c_get_915e3_9 rfl (lv_at hl 0 rfl) ?_
  refine lv_iload_n hx hb dJx4a65c_get_915e3_10 rfl (lv_at hl 1 rfl) ?_
  have hM9 := k537_elementData l hl9 dC dI z h0 h1 o0 o1 o2 o3 o4 o5 H5.size kc0
  obtain ⟨hF7, hC10⟩ := pc_M hM9 hP hD hK hS hX hT hA [0, 1] [0] rfl rfl rfl
  refine va_callr (va_runV (As := [.int 4]) (rest := []) ⟨hx, hb, hml, hown, hts⟩ hM9 (cwV 1 hts (gV q_152 q_153 q_154 q_12 q_151) rfl rfl rfl hV_Jx4a65c_elementData_915e3 ⟨Nat.le_of_ble_eq_true rfl, Nat.le_of_ble_eq_true rfl⟩) ⟨pc_blind, va_recv hK hP (ci := 0) (q := (RJx4a65c, TJx4a65c, 3)) (q0 := 0) rfl rfl, fun U hU hW => ⟨rfl, hC10 U hU hW⟩⟩ rfl rfl hl.1 rfl (lv_room (Nat.le_of_ble_eq_true rfl)) dJx4a65c_get_915e3_11 ⟨(Nat.le_of_ble_eq_true rfl), (Nat.le_of_ble_eq_true rfl)⟩) hS (fun q9 _ h9 => hF7 q9 h9) hF7 (fun u11 r12 t11 H11 L11 ht11 hvm11 hw11 hB11 hz11 hk11 hS => ?_)
  obtain ⟨hr11, hB11⟩ := hB11
  have hP := pq_keep hP hD [0, 1] rfl hk11 hB11.1 ht11
  have hG : s.heap.size + 0 ≤ H11.size := Nat.le_trans hG hz11
  refine W.eq (g2 := F0 m 14 ls [.ref o4]) (by rw [hr11]) ?_
  exact W.aret (v := .ref o4) hx hb hr (by first | exact Or.inl ⟨_, rfl⟩ | exact Or.inr ⟨_, rfl⟩) (Or.inr ⟨_, rfl⟩) (fun t9 ht9 hW9 => ⟨⟨(), o4, rfl, trivial, ⟨rfl, ⟨pq_mk2 hP hD hK [0, 1] [0] rfl rfl rfl ht9 hW9, by rw [ht9]; exact Nat.le_trans (Nat.add_le_add_left (Nat.le_of_ble_eq_true rfl) _) hG⟩⟩⟩, hS.F ht9⟩) hS.2.2 dJx4a65c_get_915e3_14

set_option maxHeartbeats 4000000 in
set_option maxRecDepth 100000 in
theorem k539_elementData (l : Launch) (hl9 : l.stackTraces = false) (dC : Nat → ClassId) (dI : Nat → Nat → Nat) (z : XZ) (h0 h1 : Nat) (o0 o1 o2 o3 o4 o5 : Nat) (sz : Nat) (kc0 : ClassId) : Met l yJx4a65c_elementData_915e3 (.code yJx4a65c_elementData_915e3 cJx4a65c_elementData_915e3 2 (some (.object "java/lang/Object")) :: wsL_law) ({ frames := 0, cells := 0, slots := 0, locals := 0 }) (va_Pc [.ref h0, .int 5] (PC (dC, dI) [(h0, ce289 h1), (h1, ce258 kc0 o0 o1 o2 o3 o4 o5)] [(kc0, .object "java/lang/Object")] sz z)) (va_Qr (fun (_ : Unit) => True) (fun (_ : Unit) (ra : Nat) (t : State) => ra = o5 ∧ PG (dC, dI) [(h0, ce289 h1), (h1, ce258 kc0 o0 o1 o2 o3 o4 o5)] [(kc0, .object "java/lang/Object")] (va_A [(h0, ce289 h1), (h1, ce258 kc0 o0 o1 o2 o3 o4 o5)] sz) sz 0 t) (va_A [(h0, ce289 h1), (h1, ce258 kc0 o0 o1 o2 o3 o4 o5)] sz)) 0 0 (va_A [(h0, ce289 h1), (h1, ce258 kc0 o0 o1 o2 o3 o4 o5)] sz) := by
  refine Met.ofW (cc := cJx4a65c_elementData_915e3) (maxL := 2) (ret := (some (.object "java/lang/Object"))) (by decide) rfl ?_
  intro p e s m args below meth c s₁ B hml hv
  obtain ⟨rfl, hsz, hP, hK, hD0, hX, hT⟩ := hv
  have hx := B.exec
  have hb := B.bytes
  have hr := B.returns
  have hts0 := atoms_spec (ws := .code yJx4a65c_elementData_915e3 cJx4a65c_elementData_915e3 2 (some (.object "java/lang/Object")) :: wsL_law) B.pre
  have hts := xTail hts0
  have hown : s.vm.findClass RJx4a65c = some m.cls := xown B.named rfl
  have hlocks := B.notSynchronized
  subst hsz
  have hD := hD0.self (sz := s.heap.size)
  generalize hAe : va_A [(h0, ce289 h1), (h1, ce258 kc0 o0 o1 o2 o3 o4 o5)] s.heap.size = A at hD hX ⊢
  have hA : ∀ q : Nat, s.heap.size ≤ q → A q := fun q h => by rw [← hAe]; exact Or.inr h
  have hS : va_S A s.heap s.heap [] := va_S.rf
  have hG : s.heap.size + 0 ≤ s.heap.size := Nat.le_refl _
  have hl := lv_entry ([.ref h0, .int 5]) (n := 2) (Nat.le_of_ble_eq_true rfl)
  rw [lg_entry_eq]
  generalize (lg_sl ([.ref h0, .int 5]) ++ List.replicate (2 - (lg_sl ([.ref h0, .int 5])).length) Slot.unset).toArray = ls at hl ⊢
  have hl : lv_has ls 2 [(0, .ref h0), (1, .int 5)] := hl
  refine lv_aload_n hx hb dJx4a65c_elementData_915e3_0 rfl (lv_at hl 0 rfl) ?_
  refine va_get (D := (dC, dI)) (ci := 0) (v := .ref h1) (C := RJx4a65c) (T := TJx4a65c) (N := 3) hx hb hts in_Jx4a65c hown hK hP 0 rfl rfl 1 (by decide) (hts _ q_24) (fun _ h9 => h9) rfl dJx4a65c_elementData_915e3_1 ?_
  refine lv_iload_n hx hb dJx4a65c_elementData_915e3_4 rfl (lv_at hl 1 rfl) ?_
  refine va_aldq hx hb hK hP 1 0 rfl rfl (i := 5) (by unfold vp_in; decide) dJx4a65c_elementData_915e3_5 ?_
  refine W.eq (g2 := F0 m 6 ls [.ref o5]) rfl ?_
  exact W.aret (v := .ref o5) hx hb hr (by first | exact Or.inl ⟨_, rfl⟩ | exact Or.inr ⟨_, rfl⟩) (Or.inr ⟨_, rfl⟩) (fun t9 ht9 hW9 => ⟨⟨(), o5, rfl, trivial, ⟨rfl, ⟨pq_mk2 hP hD hK [0, 1] [0] rfl rfl rfl ht9 hW9, by rw [ht9]; exact Nat.le_trans (Nat.add_le_add_left (Nat.le_of_ble_eq_true rfl) _) hG⟩⟩⟩, hS.F ht9⟩) hS.2.2 dJx4a65c_elementData_915e3_6

set_option maxHeartbeats 4000000 in
set_option maxRecDepth 100000 in
theorem k540_get (l : Launch) (hl9 : l.stackTraces = false) (dC : Nat → ClassId) (dI : Nat → Nat → Nat) (z : XZ) (h0 h1 : Nat) (o0 o1 o2 o3 o4 o5 : Nat) (sz : Nat) (kc0 : ClassId) : Met l yJx4a65c_get_915e3 (.code yJx4a65c_get_915e3 cJx4a65c_get_915e3 2 (some (.object "java/lang/Object")) :: wsL_law) ({ frames := 2, cells := 0, slots := 0, locals := 43 }) (va_Pc [.ref h0, .int 5] (PC (dC, dI) [(h0, ce289 h1), (h1, ce258 kc0 o0 o1 o2 o3 o4 o5)] [(kc0, .object "java/lang/Object")] sz z)) (va_Qr (fun (_ : Unit) => True) (fun (_ : Unit) (ra : Nat) (t : State) => ra = o5 ∧ PG (dC, dI) [(h0, ce289 h1), (h1, ce258 kc0 o0 o1 o2 o3 o4 o5)] [(kc0, .object "java/lang/Object")] (va_A [(h0, ce289 h1), (h1, ce258 kc0 o0 o1 o2 o3 o4 o5)] sz) sz 0 t) (va_A [(h0, ce289 h1), (h1, ce258 kc0 o0 o1 o2 o3 o4 o5)] sz)) 0 0 (va_A [(h0, ce289 h1), (h1, ce258 kc0 o0 o1 o2 o3 o4 o5)] sz) := by
  refine Met.ofW (cc := cJx4a65c_get_915e3) (maxL := 2) (ret := (some (.object "java/lang/Object"))) (by decide) rfl ?_
  intro p e s m args below meth c s₁ B hml hv
  obtain ⟨rfl, hsz, hP, hK, hD0, hX, hT⟩ := hv
  have hx := B.exec
  have hb := B.bytes
  have hr := B.returns
  have hts0 := atoms_spec (ws := .code yJx4a65c_get_915e3 cJx4a65c_get_915e3 2 (some (.object "java/lang/Object")) :: wsL_law) B.pre
  have hts := xTail hts0
  have hown : s.vm.findClass RJx4a65c = some m.cls := xown B.named rfl
  have hlocks := B.notSynchronized
  subst hsz
  have hD := hD0.self (sz := s.heap.size)
  generalize hAe : va_A [(h0, ce289 h1), (h1, ce258 kc0 o0 o1 o2 o3 o4 o5)] s.heap.size = A at hD hX ⊢
  have hA : ∀ q : Nat, s.heap.size ≤ q → A q := fun q h => by rw [← hAe]; exact Or.inr h
  have hS : va_S A s.heap s.heap [] := va_S.rf
  have hG : s.heap.size + 0 ≤ s.heap.size := Nat.le_refl _
  have hl := lv_entry ([.ref h0, .int 5]) (n := 2) (Nat.le_of_ble_eq_true rfl)
  rw [lg_entry_eq]
  generalize (lg_sl ([.ref h0, .int 5]) ++ List.replicate (2 - (lg_sl ([.ref h0, .int 5])).length) Slot.unset).toArray = ls at hl ⊢
  have hl : lv_has ls 2 [(0, .ref h0), (1, .int 5)] := hl
  refine lv_iload_n hx hb dJx4a65c_get_915e3_0 rfl (lv_at hl 1 rfl) ?_
  refine lv_aload_n hx hb dJx4a65c_get_915e3_1 rfl (lv_at hl 0 rfl) ?_
  refine va_get (D := (dC, dI)) (ci := 0) (v := .int 6) (C := RJx4a65c) (T := TJx4a65c) (N := 3) hx hb hts in_Jx4a65c hown hK hP 0 rfl rfl 2 (by decide) (hts _ q_74) (fun _ h9 => h9) rfl dJx4a65c_get_915e3_2 ?_
  have hM3 := k510_checkIndex l hl9 dC dI z s.heap.size
  obtain ⟨hF1, hC4⟩ := pc_M hM3 hP hD hK hS hX hT hA [] [] rfl rfl rfl
  refine va_calli (va_runS (As := [.int 5, .int 6]) (rest := []) ⟨hx, hb, hml, hown, hts⟩ hM3 (va_cwS 2 hts (gS q_148 q_149 q_150 q_147) rfl rfl rfl hS_J15_checkIndex_7cf53 ⟨Nat.le_of_ble_eq_true rfl, Nat.le_of_ble_eq_true rfl⟩) ⟨pc_blind, fun U hU hW => ⟨rfl, hC4 U hU hW⟩⟩ rfl rfl hl.1 rfl (lv_room (Nat.le_of_ble_eq_true rfl)) dJx4a65c_get_915e3_5 ⟨(Nat.le_of_ble_eq_true rfl), (Nat.le_of_ble_eq_true rfl)⟩) hS (fun q9 _ h9 => hF1 q9 h9) hF1 (fun r6 u5 t5 H5 L5 ht5 hvm5 hw5 hB5 hz5 hk5 hS => ?_)
  have hP := pq_keep hP hD [] rfl hk5 hB5.1 ht5
  have hG : s.heap.size + 0 ≤ H5.size := Nat.le_trans hG hz5
  refine W.eq (g2 := F0 m 8 ls [.int 5]) (by rw [hw5]) ?_
  refine lv_pop hx hb dJx4a65c_get_915e3_8 rfl ?_
  refine lv_aload_n hx hb dJx4a65c_get_915e3_9 rfl (lv_at hl 0 rfl) ?_
  refine lv_iload_n hx hb dJx4a65c_get_915e3_10 rfl (lv_at hl 1 rfl) ?_
  have hM9 := k539_elementData l hl9 dC dI z h0 h1 o0 o1 o2 o3 o4 o5 H5.size kc0
  obtain ⟨hF7, hC10⟩ := pc_M hM9 hP hD hK hS hX hT hA [0, 1] [0] rfl rfl rfl
  refine va_callr (va_runV (As := [.int 5]) (rest := []) ⟨hx, hb, hml, hown, hts⟩ hM9 (cwV 1 hts (gV q_152 q_153 q_154 q_12 q_151) rfl rfl rfl hV_Jx4a65c_elementData_915e3 ⟨Nat.le_of_ble_eq_true rfl, Nat.le_of_ble_eq_true rfl⟩) ⟨pc_blind, va_recv hK hP (ci := 0) (q := (RJx4a65c, TJx4a65c, 3)) (q0 := 0) rfl rfl, fun U hU hW => ⟨rfl, hC10 U hU hW⟩⟩ rfl rfl hl.1 rfl (lv_room (Nat.le_of_ble_eq_true rfl)) dJx4a65c_get_915e3_11 ⟨(Nat.le_of_ble_eq_true rfl), (Nat.le_of_ble_eq_true rfl)⟩) hS (fun q9 _ h9 => hF7 q9 h9) hF7 (fun u11 r12 t11 H11 L11 ht11 hvm11 hw11 hB11 hz11 hk11 hS => ?_)
  obtain ⟨hr11, hB11⟩ := hB11
  have hP := pq_keep hP hD [0, 1] rfl hk11 hB11.1 ht11
  have hG : s.heap.size + 0 ≤ H11.size := Nat.le_trans hG hz11
  refine W.eq (g2 := F0 m 14 ls [.ref o5]) (by rw [hr11]) ?_
  exact W.aret (v := .ref o5) hx hb hr (by first | exact Or.inl ⟨_, rfl⟩ | exact Or.inr ⟨_, rfl⟩) (Or.inr ⟨_, rfl⟩) (fun t9 ht9 hW9 => ⟨⟨(), o5, rfl, trivial, ⟨rfl, ⟨pq_mk2 hP hD hK [0, 1] [0] rfl rfl rfl ht9 hW9, by rw [ht9]; exact Nat.le_trans (Nat.add_le_add_left (Nat.le_of_ble_eq_true rfl) _) hG⟩⟩⟩, hS.F ht9⟩) hS.2.2 dJx4a65c_get_915e3_14

set_option maxHeartbeats 4000000 in
set_option maxRecDepth 100000 in
theorem k541_latestArrival (l : Launch) (hl9 : l.stackTraces = false) (dC : Nat → ClassId) (dI : Nat → Nat → Nat) (z : XZ) (h0 h1 : Nat) (sz : Nat) : Met l yX2_latestArrival (.code yX2_latestArrival cX2_latestArrival 4 (some .int) :: wsL_law) ({ frames := 1, cells := 0, slots := 0, locals := 20 }) (va_Pc [.ref h0] (PC (dC, dI) [(h0, ce287 (z.2.1 0) h1 h0), (h1, ce3 z.1)] [] sz z)) (va_Qi (fun (r : Int32) (_ : Unit) => r = 0) (fun (_ : Unit) (t : State) => PG (dC, dI) [(h0, ce287 (z.2.1 0) h1 h0), (h1, ce3 z.1)] [] (va_A [(h0, ce287 (z.2.1 0) h1 h0), (h1, ce3 z.1)] sz) sz 0 t) (va_A [(h0, ce287 (z.2.1 0) h1 h0), (h1, ce3 z.1)] sz)) 0 0 (va_A [(h0, ce287 (z.2.1 0) h1 h0), (h1, ce3 z.1)] sz) := by
  refine Met.ofW (cc := cX2_latestArrival) (maxL := 4) (ret := (some .int)) (by decide) rfl ?_
  intro p e s m args below meth c s₁ B hml hv
  obtain ⟨rfl, hsz, hP, hK, hD0, hX, hT⟩ := hv
  have hx := B.exec
  have hb := B.bytes
  have hr := B.returns
  have hts0 := atoms_spec (ws := .code yX2_latestArrival cX2_latestArrival 4 (some .int) :: wsL_law) B.pre
  have hts := xTail hts0
  have hown : s.vm.findClass RX2 = some m.cls := xown B.named rfl
  have hlocks := B.notSynchronized
  subst hsz
  have hD := hD0.self (sz := s.heap.size)
  generalize hAe : va_A [(h0, ce287 (z.2.1 0) h1 h0), (h1, ce3 z.1)] s.heap.size = A at hD hX ⊢
  have hA : ∀ q : Nat, s.heap.size ≤ q → A q := fun q h => by rw [← hAe]; exact Or.inr h
  have hS : va_S A s.heap s.heap [] := va_S.rf
  have hG : s.heap.size + 0 ≤ s.heap.size := Nat.le_refl _
  have hl := lv_entry ([.ref h0]) (n := 4) (Nat.le_of_ble_eq_true rfl)
  rw [lg_entry_eq]
  generalize (lg_sl ([.ref h0]) ++ List.replicate (4 - (lg_sl ([.ref h0])).length) Slot.unset).toArray = ls at hl ⊢
  have hl : lv_has ls 4 [(0, .ref h0)] := hl
  refine lv_iconst (v := 0) hx hb dX2_latestArrival_0 (by decide) ?_
  refine lv_istore_n (lv' := [(1, .int 0), (0, .ref h0)]) hx hb dX2_latestArrival_1 rfl hl (by decide) rfl (fun ls hl => ?_)
  refine lv_iconst (v := 0) hx hb dX2_latestArrival_2 (by decide) ?_
  refine lv_istore_n (lv' := [(2, .int 0), (1, .int 0), (0, .ref h0)]) hx hb dX2_latestArrival_3 rfl hl (by decide) rfl (fun ls hl => ?_)
  refine lv_iload_n hx hb dX2_latestArrival_4 rfl (lv_at hl 0 rfl) ?_
  refine lv_aload_n hx hb dX2_latestArrival_5 rfl (lv_at hl 2 rfl) ?_
  refine va_get (D := (dC, dI)) (ci := 3) (v := .ref h1) (C := RX2) (T := TX2) (N := 19) hx hb hts in_X2 hown hK hP 0 rfl rfl 2 (by decide) (hts _ q_96) (fun _ h9 => h9) rfl dX2_latestArrival_6 ?_
  have hM3 := k9_size l hl9 dC dI z h1 s.heap.size 0 0
  obtain ⟨hF1, hC4⟩ := pc_M hM3 hP hD hK hS hX hT hA [1] [] rfl rfl rfl
  refine va_calli (va_runV (As := []) (rest := [.int 0]) ⟨hx, hb, hml, hown, hts⟩ hM3 (cwV 0 hts (gV q_160 q_77 q_78 q_12 q_75) rfl rfl rfl hV_Jx4a65c_size_8abf5 ⟨Nat.le_of_ble_eq_true rfl, Nat.le_of_ble_eq_true rfl⟩) ⟨pc_blind, va_recv hK hP (ci := 0) (q := (RJx4a65c, TJx4a65c, 3)) (q0 := 1) rfl rfl, fun U hU hW => ⟨rfl, hC4 U hU hW⟩⟩ rfl rfl hl.1 rfl (lv_room (Nat.le_of_ble_eq_true rfl)) dX2_latestArrival_9 ⟨(Nat.le_of_ble_eq_true rfl), (Nat.le_of_ble_eq_true rfl)⟩) hS (fun q9 _ h9 => hF1 q9 h9) hF1 (fun r6 u5 t5 H5 L5 ht5 hvm5 hw5 hB5 hz5 hk5 hS => ?_)
  have hP := pq_keep hP hD [1] rfl hk5 hB5.1 ht5
  have hG : s.heap.size + 0 ≤ H5.size := Nat.le_trans hG hz5
  refine W.eq (g2 := F0 m 12 ls [.int 0, .int 0]) (by rw [hw5]) ?_
  refine lv_icmp_ge (tgt := 60) hx hb dX2_latestArrival_12 (by decide) (fun _ => ?_) (fun cz => absurd (by decide) cz)
  refine lv_iload_n hx hb dX2_latestArrival_60 rfl (lv_at hl 1 rfl) ?_
  exact W.iret (v := 0) hx hb hr (fun t9 ht9 hW9 => ⟨⟨0, (), rfl, rfl, ⟨pq_mk2 hP hD hK [0, 1] [] rfl rfl rfl ht9 hW9, by rw [ht9]; exact Nat.le_trans (Nat.add_le_add_left (Nat.le_of_ble_eq_true rfl) _) hG⟩⟩, hS.F ht9⟩) hS.2.2 dX2_latestArrival_61

set_option maxHeartbeats 4000000 in
set_option maxRecDepth 100000 in
theorem k542_lengthenWaysOfRead (l : Launch) (hl9 : l.stackTraces = false) (dC : Nat → ClassId) (dI : Nat → Nat → Nat) (z : XZ) (h0 h1 : Nat) (sz : Nat) : Met l yX2_lengthenWaysOfRead (.code yX2_lengthenWaysOfRead cX2_lengthenWaysOfRead 4 none :: wsL_law) ({ frames := 1, cells := 0, slots := 0, locals := 20 }) (va_Pc [.ref h0] (PC (dC, dI) [(h0, ce287 (z.2.1 0) h1 h0), (h1, ce3 z.1)] [] sz z)) (va_Qv (fun (_ : Unit) => True) (fun (_ : Unit) (t : State) => PG (dC, dI) [(h0, ce287 (z.2.1 0) h1 h0), (h1, ce3 z.1)] [] (va_A [(h0, ce287 (z.2.1 0) h1 h0), (h1, ce3 z.1)] sz) sz 0 t) (va_A [(h0, ce287 (z.2.1 0) h1 h0), (h1, ce3 z.1)] sz)) 0 0 (va_A [(h0, ce287 (z.2.1 0) h1 h0), (h1, ce3 z.1)] sz) := by
  refine Met.ofW (cc := cX2_lengthenWaysOfRead) (maxL := 4) (ret := none) (by decide) rfl ?_
  intro p e s m args below meth c s₁ B hml hv
  obtain ⟨rfl, hsz, hP, hK, hD0, hX, hT⟩ := hv
  have hx := B.exec
  have hb := B.bytes
  have hr := B.returns
  have hts0 := atoms_spec (ws := .code yX2_lengthenWaysOfRead cX2_lengthenWaysOfRead 4 none :: wsL_law) B.pre
  have hts := xTail hts0
  have hown : s.vm.findClass RX2 = some m.cls := xown B.named rfl
  have hlocks := B.notSynchronized
  subst hsz
  have hD := hD0.self (sz := s.heap.size)
  generalize hAe : va_A [(h0, ce287 (z.2.1 0) h1 h0), (h1, ce3 z.1)] s.heap.size = A at hD hX ⊢
  have hA : ∀ q : Nat, s.heap.size ≤ q → A q := fun q h => by rw [← hAe]; exact Or.inr h
  have hS : va_S A s.heap s.heap [] := va_S.rf
  have hG : s.heap.size + 0 ≤ s.heap.size := Nat.le_refl _
  have hl := lv_entry ([.ref h0]) (n := 4) (Nat.le_of_ble_eq_true rfl)
  rw [lg_entry_eq]
  generalize (lg_sl ([.ref h0]) ++ List.replicate (4 - (lg_sl ([.ref h0])).length) Slot.unset).toArray = ls at hl ⊢
  have hl : lv_has ls 4 [(0, .ref h0)] := hl
  refine lv_iconst (v := 0) hx hb dX2_lengthenWaysOfRead_0 (by decide) ?_
  refine lv_istore_n (lv' := [(1, .int 0), (0, .ref h0)]) hx hb dX2_lengthenWaysOfRead_1 rfl hl (by decide) rfl (fun ls hl => ?_)
  refine lv_iload_n hx hb dX2_lengthenWaysOfRead_2 rfl (lv_at hl 0 rfl) ?_
  refine lv_aload_n hx hb dX2_lengthenWaysOfRead_3 rfl (lv_at hl 1 rfl) ?_
  refine va_get (D := (dC, dI)) (ci := 3) (v := .ref h1) (C := RX2) (T := TX2) (N := 19) hx hb hts in_X2 hown hK hP 0 rfl rfl 2 (by decide) (hts _ q_96) (fun _ h9 => h9) rfl dX2_lengthenWaysOfRead_4 ?_
  have hM3 := k9_size l hl9 dC dI z h1 s.heap.size 0 0
  obtain ⟨hF1, hC4⟩ := pc_M hM3 hP hD hK hS hX hT hA [1] [] rfl rfl rfl
  refine va_calli (va_runV (As := []) (rest := [.int 0]) ⟨hx, hb, hml, hown, hts⟩ hM3 (cwV 0 hts (gV q_160 q_77 q_78 q_12 q_75) rfl rfl rfl hV_Jx4a65c_size_8abf5 ⟨Nat.le_of_ble_eq_true rfl, Nat.le_of_ble_eq_true rfl⟩) ⟨pc_blind, va_recv hK hP (ci := 0) (q := (RJx4a65c, TJx4a65c, 3)) (q0 := 1) rfl rfl, fun U hU hW => ⟨rfl, hC4 U hU hW⟩⟩ rfl rfl hl.1 rfl (lv_room (Nat.le_of_ble_eq_true rfl)) dX2_lengthenWaysOfRead_7 ⟨(Nat.le_of_ble_eq_true rfl), (Nat.le_of_ble_eq_true rfl)⟩) hS (fun q9 _ h9 => hF1 q9 h9) hF1 (fun r6 u5 t5 H5 L5 ht5 hvm5 hw5 hB5 hz5 hk5 hS => ?_)
  have hP := pq_keep hP hD [1] rfl hk5 hB5.1 ht5
  have hG : s.heap.size + 0 ≤ H5.size := Nat.le_trans hG hz5
  refine W.eq (g2 := F0 m 10 ls [.int 0, .int 0]) (by rw [hw5]) ?_
  refine lv_icmp_ge (tgt := 77) hx hb dX2_lengthenWaysOfRead_10 (by decide) (fun _ => ?_) (fun cz => absurd (by decide) cz)
  exact W.vret hx hb hr (fun t9 ht9 hW9 => ⟨⟨(), rfl, trivial, ⟨pq_mk2 hP hD hK [0, 1] [] rfl rfl rfl ht9 hW9, by rw [ht9]; exact Nat.le_trans (Nat.add_le_add_left (Nat.le_of_ble_eq_true rfl) _) hG⟩⟩, hS.F ht9⟩) hS.2.2 dX2_lengthenWaysOfRead_77
