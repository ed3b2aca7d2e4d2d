set_option maxHeartbeats 4000000 in
set_option maxRecDepth 100000 in
theorem k46_addInput (l : Launch) (hl9 : l.stackTraces = false) (dC : Nat → ClassId) (dI : Nat → Nat → Nat) (z : XZ) (h0 h1 h2 h3 h4 h5 h6 : Nat) (o0 : Nat) (sz : Nat) : Met l yX6_addInput (.code yX6_addInput cX6_addInput 2 (some .int) :: wsL_law) ({ frames := 9, cells := 5, slots := 52, locals := 192 }) (va_Pc [.ref h0] (PC (dC, dI) [(h0, .inr (6, [.ref h1, .ref h2, .ref o0])), (h1, .inr (2, [.ref h3, .ref h4, .ref h5, .ref h6])), (h2, .inr (5, [.ref h1, .int 0])), (h3, .inr (0, [.int 0, .ref z.1, .int 0])), (h4, .inr (0, [.int 0, .ref z.1, .int 0])), (h5, .inr (0, [.int 0, .ref z.1, .int 0])), (h6, .inr (0, [.int 0, .ref z.1, .int 0]))] [] sz z)) (va_Qi (fun (r : Int32) (_ : Unit) => r = 0) (fun (_ : Unit) (t : State) => ∃ (n0 n1 n2 n3 n4 : Nat), ∃ (m0 m1 m2 : ClassId), PG (dC, dI) [(h0, .inr (6, [.ref h1, .ref h2, .ref o0])), (h1, .inr (2, [.ref h3, .ref h4, .ref h5, .ref h6])), (h2, .inr (5, [.ref h1, .int 0])), (h3, .inr (0, [.int 1, .ref n0, .int 1])), (h4, .inr (0, [.int 1, .ref n1, .int 1])), (h5, .inr (0, [.int 0, .ref z.1, .int 0])), (h6, .inr (0, [.int 2, .ref n2, .int 1])), (n0, .inl (m0, 10, .inr (.inr (.inr (.inr (va_up (fun _ => none) 0 (some n3))))))), (n1, .inl (m1, 10, .inr (.inr (.inr (.inr (va_up (fun _ => none) 0 (some n3))))))), (n2, .inl (m2, 10, .inr (.inr (.inr (.inr (va_up (fun _ => none) 0 (some n3))))))), (n3, .inr (3, [.int 0, .ref (z.2.1 0), .ref n4, .null, .int 0, .int 0, .int 120, .int 120, .int 0, .int 0, .int 0, .int 120, .int 120, .int 0, .int 0, .int 0, .ref n3, .int 1, .int 0])), (n4, .inr (0, [.int 0, .ref z.1, .int 0]))] [(m0, .object "java/lang/Object"), (m1, .object "java/lang/Object"), (m2, .object "java/lang/Object")] (va_A [(h0, .inr (6, [.ref h1, .ref h2, .ref o0])), (h1, .inr (2, [.ref h3, .ref h4, .ref h5, .ref h6])), (h2, .inr (5, [.ref h1, .int 0])), (h3, .inr (0, [.int 0, .ref z.1, .int 0])), (h4, .inr (0, [.int 0, .ref z.1, .int 0])), (h5, .inr (0, [.int 0, .ref z.1, .int 0])), (h6, .inr (0, [.int 0, .ref z.1, .int 0]))] sz) sz 5 t) (va_A [(h0, .inr (6, [.ref h1, .ref h2, .ref o0])), (h1, .inr (2, [.ref h3, .ref h4, .ref h5, .ref h6])), (h2, .inr (5, [.ref h1, .int 0])), (h3, .inr (0, [.int 0, .ref z.1, .int 0])), (h4, .inr (0, [.int 0, .ref z.1, .int 0])), (h5, .inr (0, [.int 0, .ref z.1, .int 0])), (h6, .inr (0, [.int 0, .ref z.1, .int 0]))] sz)) 5 52 (va_A [(h0, .inr (6, [.ref h1, .ref h2, .ref o0])), (h1, .inr (2, [.ref h3, .ref h4, .ref h5, .ref h6])), (h2, .inr (5, [.ref h1, .int 0])), (h3, .inr (0, [.int 0, .ref z.1, .int 0])), (h4, .inr (0, [.int 0, .ref z.1, .int 0])), (h5, .inr (0, [.int 0, .ref z.1, .int 0])), (h6, .inr (0, [.int 0, .ref z.1, .int 0]))] sz) := by
  refine Met.ofW (cc := cX6_addInput) (maxL := 2) (ret := (some .int)) (by decide) rfl ?_
  intro p e s m args below meth c s₁ B hml hv
  obtain ⟨rfl, hsz, hP, hK, hD0, hX, hT⟩ := hv
  have hx := B.exec
  have hb := B.bytes
  have hr := B.returns
  have hts0 := atoms_spec (ws := .code yX6_addInput cX6_addInput 2 (some .int) :: wsL_law) B.pre
  have hts := xTail hts0
  have hown : s.vm.findClass RX6 = some m.cls := findClass_of_methodNamed B.named
  have hlocks := B.notSynchronized
  subst hsz
  have hD := hD0.self (sz := s.heap.size)
  generalize hAe : va_A [(h0, .inr (6, [.ref h1, .ref h2, .ref o0])), (h1, .inr (2, [.ref h3, .ref h4, .ref h5, .ref h6])), (h2, .inr (5, [.ref h1, .int 0])), (h3, .inr (0, [.int 0, .ref z.1, .int 0])), (h4, .inr (0, [.int 0, .ref z.1, .int 0])), (h5, .inr (0, [.int 0, .ref z.1, .int 0])), (h6, .inr (0, [.int 0, .ref z.1, .int 0]))] s.heap.size = A at hD hX ⊢
  have hA : ∀ q : Nat, s.heap.size ≤ q → A q := fun q h => by rw [← hAe]; exact Or.inr h
  have hS : va_S A s.heap s.heap [] := va_S.rf
  have hG : s.heap.size + 0 ≤ s.heap.size := Nat.le_refl _
  have hl := lv_entry ([.ref h0]) (n := 2) (Nat.le_of_ble_eq_true rfl)
  rw [lg_entry_eq]
  generalize (lg_sl ([.ref h0]) ++ List.replicate (2 - (lg_sl ([.ref h0])).length) Slot.unset).toArray = ls at hl ⊢
  have hl : lv_has ls 2 [(0, .ref h0)] := hl
  refine lv_aload_n hx hb dX6_addInput_0 rfl (lv_at hl 0 rfl) ?_
  have hF1 := va_free (wc := [(h0, .inr (6, [.ref h1, .ref h2, .ref o0])), (h1, .inr (2, [.ref h3, .ref h4, .ref h5, .ref h6])), (h4, .inr (0, [.int 0, .ref z.1, .int 0]))]) hD hS hA [0, 1, 4] rfl
  refine va_callv (va_runV (As := []) (rest := []) ⟨hx, hb, hml, hown, hts⟩ (k10_requireRoomForSource l hl9 dC dI z h0 h1 h4 h2 o0 h3 h5 h6 s.heap.size) (cwV 0 hts (gV q_80 q_81 q_82 q_2 q_79) rfl rfl rfl (by decide +kernel) ⟨Nat.le_of_ble_eq_true rfl, Nat.le_of_ble_eq_true rfl⟩) ⟨pc_blind, va_recv hK hP (ci := 6) (q0 := 0) rfl rfl, fun U hU hW => ⟨rfl, pc_mk hP hD hK hS hX hT [0, 1, 4] [] rfl rfl rfl rfl hF1 hU hW⟩⟩ rfl rfl hl.1 rfl (lv_room (Nat.le_of_ble_eq_true rfl)) dX6_addInput_1 ⟨(Nat.le_of_ble_eq_true rfl), (Nat.le_of_ble_eq_true rfl)⟩) hS (fun q9 _ h9 => hF1 q9 h9) hF1 (fun u3 t3 H3 L3 ht3 hvm3 hw3 hB3 hz3 hk3 hS => ?_)
  obtain ⟨hP, hD, hK⟩ := pq_join (wr := [(h2, .inr (5, [.ref h1, .int 0])), (h3, .inr (0, [.int 0, .ref z.1, .int 0])), (h5, .inr (0, [.int 0, .ref z.1, .int 0])), (h6, .inr (0, [.int 0, .ref z.1, .int 0]))]) (tr := []) (wz := [(h2, .inr (5, [.ref h1, .int 0])), (h3, .inr (0, [.int 0, .ref z.1, .int 0])), (h5, .inr (0, [.int 0, .ref z.1, .int 0])), (h6, .inr (0, [.int 0, .ref z.1, .int 0])), (h0, .inr (6, [.ref h1, .ref h2, .ref o0])), (h1, .inr (2, [.ref h3, .ref h4, .ref h5, .ref h6])), (h4, .inr (0, [.int 0, .ref z.1, .int 0]))]) (tz := []) hP hD hK [0, 1, 4] [2, 3, 5, 6] [] rfl rfl (by decide) (by decide) rfl hk3 hF1 hB3.1 ht3 hvm3 rfl rfl
  have hG : s.heap.size + 0 ≤ H3.size := Nat.le_trans hG hz3
  refine lv_aload_n hx hb dX6_addInput_4 rfl (lv_at hl 0 rfl) ?_
  have hF5 := va_free (wc := [(h0, .inr (6, [.ref h1, .ref h2, .ref o0])), (h1, .inr (2, [.ref h3, .ref h4, .ref h5, .ref h6])), (h3, .inr (0, [.int 0, .ref z.1, .int 0]))]) hD hS hA [4, 5, 1] rfl
  refine va_callv (va_runV (As := []) (rest := []) ⟨hx, hb, hml, hown, hts⟩ (k11_requireRoomForNet l hl9 dC dI z h0 h1 h3 h2 o0 h4 h5 h6 H3.size) (cwV 0 hts (gV q_85 q_86 q_87 q_2 q_84) rfl rfl rfl (by decide +kernel) ⟨Nat.le_of_ble_eq_true rfl, Nat.le_of_ble_eq_true rfl⟩) ⟨pc_blind, va_recv hK hP (ci := 6) (q0 := 4) rfl rfl, fun U hU hW => ⟨rfl, pc_mk hP hD hK hS hX hT [4, 5, 1] [] rfl rfl rfl rfl hF5 hU hW⟩⟩ rfl rfl hl.1 rfl (lv_room (Nat.le_of_ble_eq_true rfl)) dX6_addInput_5 ⟨(Nat.le_of_ble_eq_true rfl), (Nat.le_of_ble_eq_true rfl)⟩) hS (fun q9 _ h9 => hF5 q9 h9) hF5 (fun u7 t7 H7 L7 ht7 hvm7 hw7 hB7 hz7 hk7 hS => ?_)
  obtain ⟨hP, hD, hK⟩ := pq_join (wr := [(h2, .inr (5, [.ref h1, .int 0])), (h5, .inr (0, [.int 0, .ref z.1, .int 0])), (h6, .inr (0, [.int 0, .ref z.1, .int 0])), (h4, .inr (0, [.int 0, .ref z.1, .int 0]))]) (tr := []) (wz := [(h2, .inr (5, [.ref h1, .int 0])), (h5, .inr (0, [.int 0, .ref z.1, .int 0])), (h6, .inr (0, [.int 0, .ref z.1, .int 0])), (h4, .inr (0, [.int 0, .ref z.1, .int 0])), (h0, .inr (6, [.ref h1, .ref h2, .ref o0])), (h1, .inr (2, [.ref h3, .ref h4, .ref h5, .ref h6])), (h3, .inr (0, [.int 0, .ref z.1, .int 0]))]) (tz := []) hP hD hK [4, 5, 1] [0, 2, 3, 6] [] rfl rfl (by decide) (by decide) rfl hk7 hF5 hB7.1 ht7 hvm7 rfl rfl
  have hG : s.heap.size + 0 ≤ H7.size := Nat.le_trans hG hz7
  refine lv_aload_n hx hb dX6_addInput_8 rfl (lv_at hl 0 rfl) ?_
  refine va_get (D := (dC, dI)) (ci := 6) (v := .ref h1) (C := RX6) (T := TX6) (N := 3) hx hb hts in_X6 hown hK hP 4 rfl rfl 0 (by decide) (hts _ q_34) (fun _ h9 => h9) rfl dX6_addInput_9 ?_
  refine va_gets (own := RX6) (ref := "Deltacycle$NetKind") hx hb (hX.2.1.1 0 (by decide)).1 hS hown (hts _ q_88) (fun _ h9 => h9) dX6_addInput_12 ?_
  have hF9 := va_free (wc := [(h1, .inr (2, [.ref h3, .ref h4, .ref h5, .ref h6])), (h3, .inr (0, [.int 0, .ref z.1, .int 0])), (h4, .inr (0, [.int 0, .ref z.1, .int 0]))]) hD hS hA [5, 6, 3] rfl
  refine va_callr (va_runV (As := [.ref (z.2.1 0)]) (rest := []) ⟨hx, hb, hml, hown, hts⟩ (k18_makeNet l hl9 dC dI z h1 h3 h4 h5 h6 H7.size) (cwV 1 hts (gV q_136 q_137 q_138 q_8 q_135) rfl rfl rfl (by decide +kernel) ⟨Nat.le_of_ble_eq_true rfl, Nat.le_of_ble_eq_true rfl⟩) ⟨pc_blind, va_recv hK hP (ci := 2) (q0 := 5) rfl rfl, fun U hU hW => ⟨rfl, pc_mk hP hD hK hS hX hT [5, 6, 3] [] rfl rfl rfl rfl hF9 hU hW⟩⟩ rfl rfl hl.1 rfl (lv_room (Nat.le_of_ble_eq_true rfl)) dX6_addInput_15 ⟨(Nat.le_of_ble_eq_true rfl), (Nat.le_of_ble_eq_true rfl)⟩) hS (fun q9 _ h9 => hF9 q9 h9) hF9 (fun u11 r12 t11 H11 L11 ht11 hvm11 hw11 hB11 hz11 hk11 hS => ?_)
  obtain ⟨a13, a14, a15, a16, k17, k18, hr11, hB11⟩ := hB11
  obtain ⟨hP, hD, hK⟩ := pq_join (wr := [(h2, .inr (5, [.ref h1, .int 0])), (h5, .inr (0, [.int 0, .ref z.1, .int 0])), (h6, .inr (0, [.int 0, .ref z.1, .int 0])), (h0, .inr (6, [.ref h1, .ref h2, .ref o0]))]) (tr := []) (wz := [(h2, .inr (5, [.ref h1, .int 0])), (h5, .inr (0, [.int 0, .ref z.1, .int 0])), (h6, .inr (0, [.int 0, .ref z.1, .int 0])), (h0, .inr (6, [.ref h1, .ref h2, .ref o0])), (h1, .inr (2, [.ref h3, .ref h4, .ref h5, .ref h6])), (h3, .inr (0, [.int 1, .ref a15, .int 1])), (h4, .inr (0, [.int 1, .ref a16, .int 1])), (a13, .inr (3, [.int 0, .ref (z.2.1 0), .ref a14, .null, .int 0, .int 0, .int 120, .int 120, .int 0, .int 0, .int 0, .int 120, .int 120, .int 0, .int 0, .int 0, .ref a13, .int 0, .int 0])), (a14, .inr (0, [.int 0, .ref z.1, .int 0])), (a15, .inl (k17, 10, .inr (.inr (.inr (.inr (va_up (fun _ => none) 0 (some a13))))))), (a16, .inl (k18, 10, .inr (.inr (.inr (.inr (va_up (fun _ => none) 0 (some a13)))))))]) (tz := [(k17, .object "java/lang/Object"), (k18, .object "java/lang/Object")]) hP hD hK [5, 6, 3] [0, 1, 2, 4] [] rfl rfl (by decide) (by decide) rfl hk11 hF9 hB11.1 ht11 hvm11 rfl rfl
  have hG : s.heap.size + 4 ≤ H11.size := va_gr (g := 0) (g1 := 4) hG (by rw [← ht11]; exact hB11.2)
  refine W.eq (g2 := F0 m 18 ls [.ref a13]) (by rw [hr11]) ?_
  refine W.widen (k := 4) (n := 42) (by decide) (by decide) ?_
  refine lv_astore_n (lv' := [(1, .ref a13), (0, .ref h0)]) hx hb dX6_addInput_18 rfl hl (by decide) rfl (fun ls hl => ?_)
  refine lv_aload_n hx hb dX6_addInput_19 rfl (lv_at hl 1 rfl) ?_
  have hF19 := va_free (wc := [(h0, .inr (6, [.ref h1, .ref h2, .ref o0])), (h1, .inr (2, [.ref h3, .ref h4, .ref h5, .ref h6])), (h2, .inr (5, [.ref h1, .int 0])), (h3, .inr (0, [.int 1, .ref a15, .int 1])), (h4, .inr (0, [.int 1, .ref a16, .int 1])), (h5, .inr (0, [.int 0, .ref z.1, .int 0])), (h6, .inr (0, [.int 0, .ref z.1, .int 0])), (a15, .inl (k17, 10, .inr (.inr (.inr (.inr (va_up (fun _ => none) 0 (some a13))))))), (a16, .inl (k18, 10, .inr (.inr (.inr (.inr (va_up (fun _ => none) 0 (some a13))))))), (a13, .inr (3, [.int 0, .ref (z.2.1 0), .ref a14, .null, .int 0, .int 0, .int 120, .int 120, .int 0, .int 0, .int 0, .int 120, .int 120, .int 0, .int 0, .int 0, .ref a13, .int 0, .int 0])), (a14, .inr (0, [.int 0, .ref z.1, .int 0]))]) hD hS hA [3, 4, 0, 5, 6, 1, 2, 9, 10, 7, 8] rfl
  refine va_callv (va_runV (As := []) (rest := []) ⟨hx, hb, hml, hown, hts⟩ (k45_startAnew l hl9 dC dI z h0 h1 h2 h3 h4 h5 h6 a15 a16 a13 a14 o0 H11.size k17 k18) (cwV 0 hts (gV q_231 q_232 q_233 q_2 q_230) rfl rfl rfl (by decide +kernel) ⟨Nat.le_of_ble_eq_true rfl, Nat.le_of_ble_eq_true rfl⟩) ⟨pc_blind, va_recv hK hP (ci := 6) (q0 := 3) rfl rfl, fun U hU hW => ⟨rfl, pc_mk hP hD hK hS hX hT [3, 4, 0, 5, 6, 1, 2, 9, 10, 7, 8] [0, 1] rfl rfl rfl rfl hF19 hU hW⟩⟩ rfl rfl hl.1 rfl (lv_room (Nat.le_of_ble_eq_true rfl)) dX6_addInput_20 ⟨(Nat.le_of_ble_eq_true rfl), (Nat.le_of_ble_eq_true rfl)⟩) hS (fun q9 _ h9 => hF19 q9 h9) hF19 (fun u21 t21 H21 L21 ht21 hvm21 hw21 hB21 hz21 hk21 hS => ?_)
  obtain ⟨a23, k24, hB21⟩ := hB21
  obtain ⟨hP, hD, hK⟩ := pq_join (wr := []) (tr := []) (wz := [(h0, .inr (6, [.ref h1, .ref h2, .ref o0])), (h1, .inr (2, [.ref h3, .ref h4, .ref h5, .ref h6])), (h2, .inr (5, [.ref h1, .int 0])), (h3, .inr (0, [.int 1, .ref a15, .int 1])), (h4, .inr (0, [.int 1, .ref a16, .int 1])), (h5, .inr (0, [.int 0, .ref z.1, .int 0])), (h6, .inr (0, [.int 2, .ref a23, .int 1])), (a15, .inl (k17, 10, .inr (.inr (.inr (.inr (va_up (fun _ => none) 0 (some a13))))))), (a16, .inl (k18, 10, .inr (.inr (.inr (.inr (va_up (fun _ => none) 0 (some a13))))))), (a13, .inr (3, [.int 0, .ref (z.2.1 0), .ref a14, .null, .int 0, .int 0, .int 120, .int 120, .int 0, .int 0, .int 0, .int 120, .int 120, .int 0, .int 0, .int 0, .ref a13, .int 1, .int 0])), (a14, .inr (0, [.int 0, .ref z.1, .int 0])), (a23, .inl (k24, 10, .inr (.inr (.inr (.inr (va_up (fun _ => none) 0 (some a13)))))))]) (tz := [(k17, .object "java/lang/Object"), (k18, .object "java/lang/Object"), (k24, .object "java/lang/Object")]) hP hD hK [3, 4, 0, 5, 6, 1, 2, 9, 10, 7, 8] [] [] rfl rfl (by decide) (by decide) rfl hk21 hF19 hB21.1 ht21 hvm21 rfl rfl
  have hG : s.heap.size + 5 ≤ H21.size := va_gr (g := 4) (g1 := 1) hG (by rw [← ht21]; exact hB21.2)
  refine W.widen (k := 5) (n := 52) (by decide) (by decide) ?_
  refine lv_aload_n hx hb dX6_addInput_23 rfl (lv_at hl 0 rfl) ?_
  refine va_get (D := (dC, dI)) (ci := 3) (v := .int 0) (C := RX2) (T := TX2) (N := 19) hx hb hts in_X2 hown hK hP 9 rfl rfl 0 (by decide) (hts _ q_234) (fun _ h9 => h9) rfl dX6_addInput_24 ?_
  exact W.iret (v := 0) hx hb hr (fun t9 ht9 hW9 => ⟨⟨0, (), rfl, rfl, ⟨a15, a16, a23, a13, a14, k17, k18, k24, ⟨pq_mk (wc := [(h0, .inr (6, [.ref h1, .ref h2, .ref o0])), (h1, .inr (2, [.ref h3, .ref h4, .ref h5, .ref h6])), (h2, .inr (5, [.ref h1, .int 0])), (h3, .inr (0, [.int 1, .ref a15, .int 1])), (h4, .inr (0, [.int 1, .ref a16, .int 1])), (h5, .inr (0, [.int 0, .ref z.1, .int 0])), (h6, .inr (0, [.int 2, .ref a23, .int 1])), (a15, .inl (k17, 10, .inr (.inr (.inr (.inr (va_up (fun _ => none) 0 (some a13))))))), (a16, .inl (k18, 10, .inr (.inr (.inr (.inr (va_up (fun _ => none) 0 (some a13))))))), (a23, .inl (k24, 10, .inr (.inr (.inr (.inr (va_up (fun _ => none) 0 (some a13))))))), (a13, .inr (3, [.int 0, .ref (z.2.1 0), .ref a14, .null, .int 0, .int 0, .int 120, .int 120, .int 0, .int 0, .int 0, .int 120, .int 120, .int 0, .int 0, .int 0, .ref a13, .int 1, .int 0])), (a14, .inr (0, [.int 0, .ref z.1, .int 0]))]) (tc := [(k17, .object "java/lang/Object"), (k18, .object "java/lang/Object"), (k24, .object "java/lang/Object")]) hP hD hK [0, 1, 2, 3, 4, 5, 6, 7, 8, 11, 9, 10] [0, 1, 2] rfl rfl rfl rfl ht9 hW9, by rw [ht9]; exact Nat.le_trans (Nat.add_le_add_left (Nat.le_of_ble_eq_true rfl) _) hG⟩⟩⟩, hS.F ht9⟩) hS.2.2 dX6_addInput_27

set_option maxHeartbeats 4000000 in
set_option maxRecDepth 100000 in
theorem k47_addInput (l : Launch) (hl9 : l.stackTraces = false) (dC : Nat → ClassId) (dI : Nat → Nat → Nat) (z : XZ) (h0 h1 h2 h3 h4 h5 h6 h7 : Nat) (o0 : Nat) (sz : Nat) (kc0 : ClassId) : Met l yL_addInput (.codeWith yL_addInput cL_addInput 3 (some .int) [(0, 8, 11, 13), (0, 8, 14, 15)] :: wsL_law) ({ frames := 10, cells := 5, slots := 52, locals := 213 }) (va_Pc [.ref h0, .ref h1] (PC (dC, dI) [(h0, .inr (6, [.ref h2, .ref h3, .ref o0])), (h1, .inl (kc0, 1, .inr (.inl (fun _ => 0)))), (h2, .inr (2, [.ref h4, .ref h5, .ref h6, .ref h7])), (h3, .inr (5, [.ref h2, .int 0])), (h4, .inr (0, [.int 0, .ref z.1, .int 0])), (h5, .inr (0, [.int 0, .ref z.1, .int 0])), (h6, .inr (0, [.int 0, .ref z.1, .int 0])), (h7, .inr (0, [.int 0, .ref z.1, .int 0]))] [(kc0, .long)] sz z)) (va_Qi (fun (r : Int32) (_ : Unit) => r = 0) (fun (_ : Unit) (t : State) => ∃ (n0 n1 n2 n3 n4 : Nat), ∃ (m0 m1 m2 : ClassId), PG (dC, dI) [(h0, .inr (6, [.ref h2, .ref h3, .ref o0])), (h1, .inl (kc0, 1, .inr (.inl (vp_updL (fun _ => 0) 0 0)))), (h2, .inr (2, [.ref h4, .ref h5, .ref h6, .ref h7])), (h3, .inr (5, [.ref h2, .int 0])), (h4, .inr (0, [.int 1, .ref n0, .int 1])), (h5, .inr (0, [.int 1, .ref n1, .int 1])), (h6, .inr (0, [.int 0, .ref z.1, .int 0])), (h7, .inr (0, [.int 2, .ref n2, .int 1])), (n0, .inl (m0, 10, .inr (.inr (.inr (.inr (va_up (fun _ => none) 0 (some n3))))))), (n1, .inl (m1, 10, .inr (.inr (.inr (.inr (va_up (fun _ => none) 0 (some n3))))))), (n2, .inl (m2, 10, .inr (.inr (.inr (.inr (va_up (fun _ => none) 0 (some n3))))))), (n3, .inr (3, [.int 0, .ref (z.2.1 0), .ref n4, .null, .int 0, .int 0, .int 120, .int 120, .int 0, .int 0, .int 0, .int 120, .int 120, .int 0, .int 0, .int 0, .ref n3, .int 1, .int 0])), (n4, .inr (0, [.int 0, .ref z.1, .int 0]))] [(kc0, .long), (m0, .object "java/lang/Object"), (m1, .object "java/lang/Object"), (m2, .object "java/lang/Object")] (va_A [(h0, .inr (6, [.ref h2, .ref h3, .ref o0])), (h1, .inl (kc0, 1, .inr (.inl (fun _ => 0)))), (h2, .inr (2, [.ref h4, .ref h5, .ref h6, .ref h7])), (h3, .inr (5, [.ref h2, .int 0])), (h4, .inr (0, [.int 0, .ref z.1, .int 0])), (h5, .inr (0, [.int 0, .ref z.1, .int 0])), (h6, .inr (0, [.int 0, .ref z.1, .int 0])), (h7, .inr (0, [.int 0, .ref z.1, .int 0]))] sz) sz 5 t) (va_A [(h0, .inr (6, [.ref h2, .ref h3, .ref o0])), (h1, .inl (kc0, 1, .inr (.inl (fun _ => 0)))), (h2, .inr (2, [.ref h4, .ref h5, .ref h6, .ref h7])), (h3, .inr (5, [.ref h2, .int 0])), (h4, .inr (0, [.int 0, .ref z.1, .int 0])), (h5, .inr (0, [.int 0, .ref z.1, .int 0])), (h6, .inr (0, [.int 0, .ref z.1, .int 0])), (h7, .inr (0, [.int 0, .ref z.1, .int 0]))] sz)) 5 52 (va_A [(h0, .inr (6, [.ref h2, .ref h3, .ref o0])), (h1, .inl (kc0, 1, .inr (.inl (fun _ => 0)))), (h2, .inr (2, [.ref h4, .ref h5, .ref h6, .ref h7])), (h3, .inr (5, [.ref h2, .int 0])), (h4, .inr (0, [.int 0, .ref z.1, .int 0])), (h5, .inr (0, [.int 0, .ref z.1, .int 0])), (h6, .inr (0, [.int 0, .ref z.1, .int 0])), (h7, .inr (0, [.int 0, .ref z.1, .int 0]))] sz) := by
  refine va_MetW (cc := cL_addInput) (maxL := 3) (ret := (some .int)) (hh := [(0, 8, 11, 13), (0, 8, 14, 15)]) (by decide) rfl ?_
  intro p e s m args below meth c s₁ B hml hv
  obtain ⟨rfl, hsz, hP, hK, hD0, hX, hT⟩ := hv
  have hx := B.exec
  have hb := B.bytes
  have hr := B.returns
  have hts0 := atoms_spec (ws := .codeWith yL_addInput cL_addInput 3 (some .int) [(0, 8, 11, 13), (0, 8, 14, 15)] :: wsL_law) B.pre
  have htab := vx_table (x := yL_addInput) B (hts0 _ List.mem_cons_self)
  have hts := xTail hts0
  have hown : s.vm.findClass RL = some m.cls := findClass_of_methodNamed B.named
  have hlocks := B.notSynchronized
  subst hsz
  have hD := hD0.self (sz := s.heap.size)
  generalize hAe : va_A [(h0, .inr (6, [.ref h2, .ref h3, .ref o0])), (h1, .inl (kc0, 1, .inr (.inl (fun _ => 0)))), (h2, .inr (2, [.ref h4, .ref h5, .ref h6, .ref h7])), (h3, .inr (5, [.ref h2, .int 0])), (h4, .inr (0, [.int 0, .ref z.1, .int 0])), (h5, .inr (0, [.int 0, .ref z.1, .int 0])), (h6, .inr (0, [.int 0, .ref z.1, .int 0])), (h7, .inr (0, [.int 0, .ref z.1, .int 0]))] s.heap.size = A at hD hX ⊢
  have hA : ∀ q : Nat, s.heap.size ≤ q → A q := fun q h => by rw [← hAe]; exact Or.inr h
  have hS : va_S A s.heap s.heap [] := va_S.rf
  have hG : s.heap.size + 0 ≤ s.heap.size := Nat.le_refl _
  have hl := lv_entry ([.ref h0, .ref h1]) (n := 3) (Nat.le_of_ble_eq_true rfl)
  rw [lg_entry_eq]
  generalize (lg_sl ([.ref h0, .ref h1]) ++ List.replicate (3 - (lg_sl ([.ref h0, .ref h1])).length) Slot.unset).toArray = ls at hl ⊢
  have hl : lv_has ls 3 [(0, .ref h0), (1, .ref h1)] := hl
  refine lv_aload_n hx hb dL_addInput_0 rfl (lv_at hl 1 rfl) ?_
  refine lv_iconst (v := 0) hx hb dL_addInput_1 (by decide) ?_
  refine lv_aload_n hx hb dL_addInput_2 rfl (lv_at hl 0 rfl) ?_
  have hF1 := va_free (wc := [(h0, .inr (6, [.ref h2, .ref h3, .ref o0])), (h2, .inr (2, [.ref h4, .ref h5, .ref h6, .ref h7])), (h3, .inr (5, [.ref h2, .int 0])), (h4, .inr (0, [.int 0, .ref z.1, .int 0])), (h5, .inr (0, [.int 0, .ref z.1, .int 0])), (h6, .inr (0, [.int 0, .ref z.1, .int 0])), (h7, .inr (0, [.int 0, .ref z.1, .int 0]))]) hD hS hA [0, 2, 3, 4, 5, 6, 7] rfl
  refine va_calli (va_runV (As := []) (rest := [.int 0, .ref h1]) ⟨hx, hb, hml, hown, hts⟩ (k46_addInput l hl9 dC dI z h0 h2 h3 h4 h5 h6 h7 o0 s.heap.size) (cwV 0 hts (gV q_236 q_237 q_238 q_2 q_235) rfl rfl rfl (by decide +kernel) ⟨Nat.le_of_ble_eq_true rfl, Nat.le_of_ble_eq_true rfl⟩) ⟨pc_blind, va_recv hK hP (ci := 6) (q0 := 0) rfl rfl, fun U hU hW => ⟨rfl, pc_mk hP hD hK hS hX hT [0, 2, 3, 4, 5, 6, 7] [] rfl rfl rfl rfl hF1 hU hW⟩⟩ rfl rfl hl.1 rfl (lv_room (Nat.le_of_ble_eq_true rfl)) dL_addInput_3 ⟨(Nat.le_of_ble_eq_true rfl), (Nat.le_of_ble_eq_true rfl)⟩) hS (fun q9 _ h9 => hF1 q9 h9) hF1 (fun r4 u3 t3 H3 L3 ht3 hvm3 hw3 hB3 hz3 hk3 hS => ?_)
  obtain ⟨a5, a6, a7, a8, a9, k10, k11, k12, hB3⟩ := hB3
  obtain ⟨hP, hD, hK⟩ := pq_join (wr := [(h1, .inl (kc0, 1, .inr (.inl (fun _ => 0))))]) (tr := [(kc0, .long)]) (wz := [(h1, .inl (kc0, 1, .inr (.inl (fun _ => 0)))), (h0, .inr (6, [.ref h2, .ref h3, .ref o0])), (h2, .inr (2, [.ref h4, .ref h5, .ref h6, .ref h7])), (h3, .inr (5, [.ref h2, .int 0])), (h4, .inr (0, [.int 1, .ref a5, .int 1])), (h5, .inr (0, [.int 1, .ref a6, .int 1])), (h6, .inr (0, [.int 0, .ref z.1, .int 0])), (h7, .inr (0, [.int 2, .ref a7, .int 1])), (a5, .inl (k10, 10, .inr (.inr (.inr (.inr (va_up (fun _ => none) 0 (some a8))))))), (a6, .inl (k11, 10, .inr (.inr (.inr (.inr (va_up (fun _ => none) 0 (some a8))))))), (a7, .inl (k12, 10, .inr (.inr (.inr (.inr (va_up (fun _ => none) 0 (some a8))))))), (a8, .inr (3, [.int 0, .ref (z.2.1 0), .ref a9, .null, .int 0, .int 0, .int 120, .int 120, .int 0, .int 0, .int 0, .int 120, .int 120, .int 0, .int 0, .int 0, .ref a8, .int 1, .int 0])), (a9, .inr (0, [.int 0, .ref z.1, .int 0]))]) (tz := [(kc0, .long), (k10, .object "java/lang/Object"), (k11, .object "java/lang/Object"), (k12, .object "java/lang/Object")]) hP hD hK [0, 2, 3, 4, 5, 6, 7] [1] [0] rfl rfl (by decide) (by decide) rfl hk3 hF1 hB3.1 ht3 hvm3 rfl rfl
  have hG : s.heap.size + 5 ≤ H3.size := va_gr (g := 0) (g1 := 5) hG (by rw [← ht3]; exact hB3.2)
  refine W.eq (g2 := F0 m 6 ls [.int 0, .int 0, .ref h1]) (by rw [hw3]) ?_
  refine W.widen (k := 5) (n := 52) (by decide) (by decide) ?_
  refine lv_i2l (v := 0) hx hb dL_addInput_6 (by decide) ?_
  refine va_last hx hb hK hP hD (va_Sre hS) 0 0 rfl rfl (i := 0) (by unfold vp_in; decide) dL_addInput_7 (fun H13 _ hP hD hS' => ?_)
  have hG : s.heap.size + 5 ≤ H13.size := Nat.le_trans hG hS'.1
  have hS := va_Str hS hS'
  have hP : va_P (dC, dI) xCl [(h1, .inl (kc0, 1, .inr (.inl (vp_updL (fun _ => 0) 0 0)))), (h0, .inr (6, [.ref h2, .ref h3, .ref o0])), (h2, .inr (2, [.ref h4, .ref h5, .ref h6, .ref h7])), (h3, .inr (5, [.ref h2, .int 0])), (h4, .inr (0, [.int 1, .ref a5, .int 1])), (h5, .inr (0, [.int 1, .ref a6, .int 1])), (h6, .inr (0, [.int 0, .ref z.1, .int 0])), (h7, .inr (0, [.int 2, .ref a7, .int 1])), (a5, .inl (k10, 10, .inr (.inr (.inr (.inr (va_up (fun _ => none) 0 (some a8))))))), (a6, .inl (k11, 10, .inr (.inr (.inr (.inr (va_up (fun _ => none) 0 (some a8))))))), (a7, .inl (k12, 10, .inr (.inr (.inr (.inr (va_up (fun _ => none) 0 (some a8))))))), (a8, .inr (3, [.int 0, .ref (z.2.1 0), .ref a9, .null, .int 0, .int 0, .int 120, .int 120, .int 0, .int 0, .int 0, .int 120, .int 120, .int 0, .int 0, .int 0, .ref a8, .int 1, .int 0])), (a9, .inr (0, [.int 0, .ref z.1, .int 0]))] H13 := hP
  have hD : va_D A [(h1, .inl (kc0, 1, .inr (.inl (vp_updL (fun _ => 0) 0 0)))), (h0, .inr (6, [.ref h2, .ref h3, .ref o0])), (h2, .inr (2, [.ref h4, .ref h5, .ref h6, .ref h7])), (h3, .inr (5, [.ref h2, .int 0])), (h4, .inr (0, [.int 1, .ref a5, .int 1])), (h5, .inr (0, [.int 1, .ref a6, .int 1])), (h6, .inr (0, [.int 0, .ref z.1, .int 0])), (h7, .inr (0, [.int 2, .ref a7, .int 1])), (a5, .inl (k10, 10, .inr (.inr (.inr (.inr (va_up (fun _ => none) 0 (some a8))))))), (a6, .inl (k11, 10, .inr (.inr (.inr (.inr (va_up (fun _ => none) 0 (some a8))))))), (a7, .inl (k12, 10, .inr (.inr (.inr (.inr (va_up (fun _ => none) 0 (some a8))))))), (a8, .inr (3, [.int 0, .ref (z.2.1 0), .ref a9, .null, .int 0, .int 0, .int 120, .int 120, .int 0, .int 0, .int 0, .int 120, .int 120, .int 0, .int 0, .int 0, .ref a8, .int 1, .int 0])), (a9, .inr (0, [.int 0, .ref z.1, .int 0]))] := hD
  refine lv_goto (tgt := 17) hx hb dL_addInput_8 (by decide) ?_
  refine lv_iconst (v := 0) hx hb dL_addInput_17 (by decide) ?_
  exact W.iret (v := 0) hx hb hr (fun t9 ht9 hW9 => ⟨⟨0, (), rfl, rfl, ⟨a5, a6, a7, a8, a9, k10, k11, k12, ⟨pq_mk (wc := [(h0, .inr (6, [.ref h2, .ref h3, .ref o0])), (h1, .inl (kc0, 1, .inr (.inl (vp_updL (fun _ => 0) 0 0)))), (h2, .inr (2, [.ref h4, .ref h5, .ref h6, .ref h7])), (h3, .inr (5, [.ref h2, .int 0])), (h4, .inr (0, [.int 1, .ref a5, .int 1])), (h5, .inr (0, [.int 1, .ref a6, .int 1])), (h6, .inr (0, [.int 0, .ref z.1, .int 0])), (h7, .inr (0, [.int 2, .ref a7, .int 1])), (a5, .inl (k10, 10, .inr (.inr (.inr (.inr (va_up (fun _ => none) 0 (some a8))))))), (a6, .inl (k11, 10, .inr (.inr (.inr (.inr (va_up (fun _ => none) 0 (some a8))))))), (a7, .inl (k12, 10, .inr (.inr (.inr (.inr (va_up (fun _ => none) 0 (some a8))))))), (a8, .inr (3, [.int 0, .ref (z.2.1 0), .ref a9, .null, .int 0, .int 0, .int 120, .int 120, .int 0, .int 0, .int 0, .int 120, .int 120, .int 0, .int 0, .int 0, .ref a8, .int 1, .int 0])), (a9, .inr (0, [.int 0, .ref z.1, .int 0]))]) (tc := [(kc0, .long), (k10, .object "java/lang/Object"), (k11, .object "java/lang/Object"), (k12, .object "java/lang/Object")]) hP hD hK [1, 0, 2, 3, 4, 5, 6, 7, 8, 9, 10, 11, 12] [0, 1, 2, 3] rfl rfl rfl rfl ht9 hW9, by rw [ht9]; exact Nat.le_trans (Nat.add_le_add_left (Nat.le_of_ble_eq_true rfl) _) hG⟩⟩⟩, hS.F ht9⟩) hS.2.2 dL_addInput_18

set_option maxHeartbeats 4000000 in
set_option maxRecDepth 100000 in
theorem k48_init (l : Launch) (hl9 : l.stackTraces = false) (dC : Nat → ClassId) (dI : Nat → Nat → Nat) (z : XZ) (h0 h1 : Nat) (sz : Nat) : Met l yJx35411_init_45d68 (.code yJx35411_init_45d68 cJx35411_init_45d68 2 none :: wsL_law) ({ frames := 1, cells := 0, slots := 0, locals := 16 }) (va_Pc [.ref h0, .ref h1] (PC (dC, dI) [(h0, .inr (1, [.int 0, .int 0, .int 0, .null])), (h1, .inr (0, [.int 0, .ref z.1, .int 0]))] [] sz z)) (va_Qv (fun (_ : Unit) => True) (fun (_ : Unit) (t : State) => PG (dC, dI) [(h0, .inr (1, [.int 0, .int (-1), .int 0, .ref h1])), (h1, .inr (0, [.int 0, .ref z.1, .int 0]))] [] (va_A [(h0, .inr (1, [.int 0, .int 0, .int 0, .null])), (h1, .inr (0, [.int 0, .ref z.1, .int 0]))] sz) sz 0 t) (va_A [(h0, .inr (1, [.int 0, .int 0, .int 0, .null])), (h1, .inr (0, [.int 0, .ref z.1, .int 0]))] sz)) 0 0 (va_A [(h0, .inr (1, [.int 0, .int 0, .int 0, .null])), (h1, .inr (0, [.int 0, .ref z.1, .int 0]))] sz) := by
  refine Met.ofW (cc := cJx35411_init_45d68) (maxL := 2) (ret := none) (by decide) rfl ?_
  intro p e s m args below meth c s₁ B hml hv
  obtain ⟨rfl, hsz, hP, hK, hD0, hX, hT⟩ := hv
  have hx := B.exec
  have hb := B.bytes
  have hr := B.returns
  have hts0 := atoms_spec (ws := .code yJx35411_init_45d68 cJx35411_init_45d68 2 none :: wsL_law) B.pre
  have hts := xTail hts0
  have hown : s.vm.findClass RJx35411 = some m.cls := findClass_of_methodNamed B.named
  have hlocks := B.notSynchronized
  have hin : meth.name = "<init>" := (name_of_methodNamed B.named B.method).1
  subst hsz
  have hD := hD0.self (sz := s.heap.size)
  generalize hAe : va_A [(h0, .inr (1, [.int 0, .int 0, .int 0, .null])), (h1, .inr (0, [.int 0, .ref z.1, .int 0]))] s.heap.size = A at hD hX ⊢
  have hA : ∀ q : Nat, s.heap.size ≤ q → A q := fun q h => by rw [← hAe]; exact Or.inr h
  have hS : va_S A s.heap s.heap [] := va_S.rf
  have hG : s.heap.size + 0 ≤ s.heap.size := Nat.le_refl _
  have hl := lv_entry ([.ref h0, .ref h1]) (n := 2) (Nat.le_of_ble_eq_true rfl)
  rw [lg_entry_eq]
  generalize (lg_sl ([.ref h0, .ref h1]) ++ List.replicate (2 - (lg_sl ([.ref h0, .ref h1])).length) Slot.unset).toArray = ls at hl ⊢
  have hl : lv_has ls 2 [(0, .ref h0), (1, .ref h1)] := hl
  refine lv_aload_n hx hb dJx35411_init_45d68_0 rfl (lv_at hl 0 rfl) ?_
  refine lv_aload_n hx hb dJx35411_init_45d68_1 rfl (lv_at hl 1 rfl) ?_
  refine va_putF (D := (dC, dI)) (ci := 1) (v := .ref h1) (ty := .object "java/util/ArrayList") (C := RJx35411) (T := TJx35411) (N := 4) hx hb hts in_Jx35411 tyJx35411 tyJx35411_ok nmJx35411 hown hK hP hD (va_Sre hS) 0 rfl rfl 3 (by decide) (hts _ q_247) (fun _ h9 => h9) rfl hin rfl (by decide +kernel) rfl rfl (Nat.le_of_ble_eq_true rfl) dJx35411_init_45d68_2 (fun H1 _ hP hD hS' => ?_)
  have hG : s.heap.size + 0 ≤ H1.size := Nat.le_trans hG hS'.1
  have hS := va_Str hS hS'
  have hP : va_P (dC, dI) xCl [(h0, .inr (1, [.int 0, .int 0, .int 0, .ref h1])), (h1, .inr (0, [.int 0, .ref z.1, .int 0]))] H1 := hP
  have hD : va_D A [(h0, .inr (1, [.int 0, .int 0, .int 0, .ref h1])), (h1, .inr (0, [.int 0, .ref z.1, .int 0]))] := hD
  refine lv_aload_n hx hb dJx35411_init_45d68_5 rfl (lv_at hl 0 rfl) ?_
  refine W.objInit hx hb hown (hts _ q_248) (hts _ q_4) (hts _ q_5) rfl (by rw [hml]; exact hl.1) rfl dJx35411_init_45d68_6 (Nat.le_of_ble_eq_true rfl) (Nat.le_of_ble_eq_true rfl) ?_
  refine W.eq (g2 := F0 m 9 ls []) rfl ?_
  refine lv_aload_n hx hb dJx35411_init_45d68_9 rfl (lv_at hl 0 rfl) ?_
  refine lv_iconst (v := (-1)) hx hb dJx35411_init_45d68_10 (by decide) ?_
  refine va_put (D := (dC, dI)) (ci := 1) (v := .int (-1)) (ty := .int) (C := RJx35411) (T := TJx35411) (N := 4) hx hb hts in_Jx35411 tyJx35411 tyJx35411_ok nmJx35411 hown hK hP hD (va_Sre hS) 0 rfl rfl 1 (by decide) (hts _ q_249) (fun _ h9 => h9) rfl (by decide +kernel) rfl rfl (Nat.le_of_ble_eq_true rfl) dJx35411_init_45d68_11 (fun H2 _ hP hD hS' => ?_)
  have hG : s.heap.size + 0 ≤ H2.size := Nat.le_trans hG hS'.1
  have hS := va_Str hS hS'
  have hP : va_P (dC, dI) xCl [(h0, .inr (1, [.int 0, .int (-1), .int 0, .ref h1])), (h1, .inr (0, [.int 0, .ref z.1, .int 0]))] H2 := hP
  have hD : va_D A [(h0, .inr (1, [.int 0, .int (-1), .int 0, .ref h1])), (h1, .inr (0, [.int 0, .ref z.1, .int 0]))] := hD
  refine lv_aload_n hx hb dJx35411_init_45d68_14 rfl (lv_at hl 0 rfl) ?_
  refine lv_aload_n hx hb dJx35411_init_45d68_15 rfl (lv_at hl 0 rfl) ?_
  refine va_get (D := (dC, dI)) (ci := 1) (v := .ref h1) (C := RJx35411) (T := TJx35411) (N := 4) hx hb hts in_Jx35411 hown hK hP 0 rfl rfl 3 (by decide) (hts _ q_247) (fun _ h9 => h9) rfl dJx35411_init_45d68_16 ?_
  refine va_get (D := (dC, dI)) (ci := 0) (v := .int 0) (C := RJx4a65c) (T := TJx4a65c) (N := 3) hx hb hts in_Jx4a65c hown hK hP 1 rfl rfl 0 (by decide) (hts _ q_250) (u_same (hts _ q_107)) rfl dJx35411_init_45d68_19 ?_
  refine va_put (D := (dC, dI)) (ci := 1) (v := .int 0) (ty := .int) (C := RJx35411) (T := TJx35411) (N := 4) hx hb hts in_Jx35411 tyJx35411 tyJx35411_ok nmJx35411 hown hK hP hD (va_Sre hS) 0 rfl rfl 2 (by decide) (hts _ q_251) (fun _ h9 => h9) rfl (by decide +kernel) rfl rfl (Nat.le_of_ble_eq_true rfl) dJx35411_init_45d68_22 (fun H3 _ hP hD hS' => ?_)
  have hG : s.heap.size + 0 ≤ H3.size := Nat.le_trans hG hS'.1
  have hS := va_Str hS hS'
  have hP : va_P (dC, dI) xCl [(h0, .inr (1, [.int 0, .int (-1), .int 0, .ref h1])), (h1, .inr (0, [.int 0, .ref z.1, .int 0]))] H3 := hP
  have hD : va_D A [(h0, .inr (1, [.int 0, .int (-1), .int 0, .ref h1])), (h1, .inr (0, [.int 0, .ref z.1, .int 0]))] := hD
  exact W.vret hx hb hr (fun t9 ht9 hW9 => ⟨⟨(), rfl, trivial, ⟨pq_mk (wc := [(h0, .inr (1, [.int 0, .int (-1), .int 0, .ref h1])), (h1, .inr (0, [.int 0, .ref z.1, .int 0]))]) (tc := []) hP hD hK [0, 1] [] rfl rfl rfl rfl ht9 hW9, by rw [ht9]; exact Nat.le_trans (Nat.add_le_add_left (Nat.le_of_ble_eq_true rfl) _) hG⟩⟩, hS.F ht9⟩) hS.2.2 dJx35411_init_45d68_25

set_option maxHeartbeats 4000000 in
set_option maxRecDepth 100000 in
theorem k49_iterator (l : Launch) (hl9 : l.stackTraces = false) (dC : Nat → ClassId) (dI : Nat → Nat → Nat) (z : XZ) (h0 : Nat) (sz : Nat) : Met l yJx4a65c_iterator_32c93 (.code yJx4a65c_iterator_32c93 cJx4a65c_iterator_32c93 1 (some (.object "java/util/Iterator")) :: wsL_law) ({ frames := 2, cells := 1, slots := 4, locals := 37 }) (va_Pc [.ref h0] (PC (dC, dI) [(h0, .inr (0, [.int 0, .ref z.1, .int 0]))] [] sz z)) (va_Qr (fun (_ : Unit) => True) (fun (_ : Unit) (ra : Nat) (t : State) => ∃ (n0 : Nat), ra = n0 ∧ PG (dC, dI) [(h0, .inr (0, [.int 0, .ref z.1, .int 0])), (n0, .inr (1, [.int 0, .int (-1), .int 0, .ref h0]))] [] (va_A [(h0, .inr (0, [.int 0, .ref z.1, .int 0]))] sz) sz 1 t) (va_A [(h0, .inr (0, [.int 0, .ref z.1, .int 0]))] sz)) 1 4 (va_A [(h0, .inr (0, [.int 0, .ref z.1, .int 0]))] sz) := by
  refine Met.ofW (cc := cJx4a65c_iterator_32c93) (maxL := 1) (ret := (some (.object "java/util/Iterator"))) (by decide) rfl ?_
  intro p e s m args below meth c s₁ B hml hv
  obtain ⟨rfl, hsz, hP, hK, hD0, hX, hT⟩ := hv
  have hx := B.exec
  have hb := B.bytes
  have hr := B.returns
  have hts0 := atoms_spec (ws := .code yJx4a65c_iterator_32c93 cJx4a65c_iterator_32c93 1 (some (.object "java/util/Iterator")) :: wsL_law) B.pre
  have hts := xTail hts0
  have hown : s.vm.findClass RJx4a65c = some m.cls := findClass_of_methodNamed B.named
  have hlocks := B.notSynchronized
  subst hsz
  have hD := hD0.self (sz := s.heap.size)
  generalize hAe : va_A [(h0, .inr (0, [.int 0, .ref z.1, .int 0]))] s.heap.size = A at hD hX ⊢
  have hA : ∀ q : Nat, s.heap.size ≤ q → A q := fun q h => by rw [← hAe]; exact Or.inr h
  have hS : va_S A s.heap s.heap [] := va_S.rf
  have hG : s.heap.size + 0 ≤ s.heap.size := Nat.le_refl _
  have hl := lv_entry ([.ref h0]) (n := 1) (Nat.le_of_ble_eq_true rfl)
  rw [lg_entry_eq]
  generalize (lg_sl ([.ref h0]) ++ List.replicate (1 - (lg_sl ([.ref h0])).length) Slot.unset).toArray = ls at hl ⊢
  have hl : lv_has ls 1 [(0, .ref h0)] := hl
  refine xa_new (ci := 1) (fs := [.int 0, .int 0, .int 0, .null]) (C := RJx35411) (T := TJx35411) (N := 4) hx hb hts in_Jx35411 tyJx35411 tyJx35411_ok hown (hts _ q_244) (hts _ q_245) (hts _ q_246) hK hP hD hS hA rfl nf_Jx35411 (Nat.le_of_ble_eq_true rfl) (Nat.le_of_ble_eq_true rfl) dJx4a65c_iterator_32c93_0 (fun a1 H2 hg8 hP hD hS => ?_)
  have hG : s.heap.size + 1 ≤ H2.size := by rw [hg8]; exact Nat.succ_le_succ hG
  have hP : va_P (dC, dI) xCl [(h0, .inr (0, [.int 0, .ref z.1, .int 0])), (a1, .inr (1, [.int 0, .int 0, .int 0, .null]))] H2 := hP
  have hD : va_D A [(h0, .inr (0, [.int 0, .ref z.1, .int 0])), (a1, .inr (1, [.int 0, .int 0, .int 0, .null]))] := hD
  refine W.widen (k := 1) (n := 4) (by decide) (by decide) ?_
  refine lv_dup hx hb dJx4a65c_iterator_32c93_3 rfl ?_
  refine lv_aload_n hx hb dJx4a65c_iterator_32c93_4 rfl (lv_at hl 0 rfl) ?_
  have hF3 := va_free (wc := [(a1, .inr (1, [.int 0, .int 0, .int 0, .null])), (h0, .inr (0, [.int 0, .ref z.1, .int 0]))]) hD hS hA [1, 0] rfl
  refine va_callv (va_runI (As := [.ref h0]) (rest := [.ref a1]) ⟨hx, hb, hml, hown, hts⟩ (k48_init l hl9 dC dI z a1 h0 H2.size) (cwI 1 hts (gIL q_252) rfl rfl rfl (hts _ q_246) (hts _ q_253) (hts _ q_254) rfl (by decide +kernel) ⟨Nat.le_of_ble_eq_true rfl, Nat.le_of_ble_eq_true rfl⟩) ⟨pc_blind, fun U hU hW => ⟨rfl, pc_mk hP hD hK hS hX hT [1, 0] [] rfl rfl rfl rfl hF3 hU hW⟩⟩ rfl rfl hl.1 rfl (lv_room (Nat.le_of_ble_eq_true rfl)) dJx4a65c_iterator_32c93_5 ⟨(Nat.le_of_ble_eq_true rfl), (Nat.le_of_ble_eq_true rfl)⟩) hS (fun q9 _ h9 => hF3 q9 h9) hF3 (fun u5 t5 H5 L5 ht5 hvm5 hw5 hB5 hz5 hk5 hS => ?_)
  obtain ⟨hP, hD, hK⟩ := pq_join (wr := []) (tr := []) (wz := [(a1, .inr (1, [.int 0, .int (-1), .int 0, .ref h0])), (h0, .inr (0, [.int 0, .ref z.1, .int 0]))]) (tz := []) hP hD hK [1, 0] [] [] rfl rfl (by decide) (by decide) rfl hk5 hF3 hB5.1 ht5 hvm5 rfl rfl
  have hG : s.heap.size + 1 ≤ H5.size := Nat.le_trans hG hz5
  exact W.aret (v := .ref a1) hx hb hr (by first | exact Or.inl ⟨_, rfl⟩ | exact Or.inr ⟨_, rfl⟩) (Or.inr ⟨_, rfl⟩) (fun t9 ht9 hW9 => ⟨⟨(), a1, rfl, trivial, ⟨a1, rfl, ⟨pq_mk (wc := [(h0, .inr (0, [.int 0, .ref z.1, .int 0])), (a1, .inr (1, [.int 0, .int (-1), .int 0, .ref h0]))]) (tc := []) hP hD hK [1, 0] [] rfl rfl rfl rfl ht9 hW9, by rw [ht9]; exact Nat.le_trans (Nat.add_le_add_left (Nat.le_of_ble_eq_true rfl) _) hG⟩⟩⟩, hS.F ht9⟩) hS.2.2 dJx4a65c_iterator_32c93_8

set_option maxHeartbeats 4000000 in
set_option maxRecDepth 100000 in
theorem k50_hasNext (l : Launch) (hl9 : l.stackTraces = false) (dC : Nat → ClassId) (dI : Nat → Nat → Nat) (z : XZ) (h0 h1 : Nat) (sz : Nat) : Met l yJx35411_hasNext_aae02 (.code yJx35411_hasNext_aae02 cJx35411_hasNext_aae02 1 (some .boolean) :: wsL_law) ({ frames := 0, cells := 0, slots := 0, locals := 0 }) (va_Pc [.ref h0] (PC (dC, dI) [(h0, .inr (1, [.int 0, .int (-1), .int 0, .ref h1])), (h1, .inr (0, [.int 0, .ref z.1, .int 0]))] [] sz z)) (va_Qi (fun (r : Int32) (_ : Unit) => r = 0) (fun (_ : Unit) (t : State) => PG (dC, dI) [(h0, .inr (1, [.int 0, .int (-1), .int 0, .ref h1])), (h1, .inr (0, [.int 0, .ref z.1, .int 0]))] [] (va_A [(h0, .inr (1, [.int 0, .int (-1), .int 0, .ref h1])), (h1, .inr (0, [.int 0, .ref z.1, .int 0]))] sz) sz 0 t) (va_A [(h0, .inr (1, [.int 0, .int (-1), .int 0, .ref h1])), (h1, .inr (0, [.int 0, .ref z.1, .int 0]))] sz)) 0 0 (va_A [(h0, .inr (1, [.int 0, .int (-1), .int 0, .ref h1])), (h1, .inr (0, [.int 0, .ref z.1, .int 0]))] sz) := by
  refine Met.ofW (cc := cJx35411_hasNext_aae02) (maxL := 1) (ret := (some .boolean)) (by decide) rfl ?_
  intro p e s m args below meth c s₁ B hml hv
  obtain ⟨rfl, hsz, hP, hK, hD0, hX, hT⟩ := hv
  have hx := B.exec
  have hb := B.bytes
  have hr := B.returns
  have hts0 := atoms_spec (ws := .code yJx35411_hasNext_aae02 cJx35411_hasNext_aae02 1 (some .boolean) :: wsL_law) B.pre
  have hts := xTail hts0
  have hown : s.vm.findClass RJx35411 = some m.cls := findClass_of_methodNamed B.named
  have hlocks := B.notSynchronized
  subst hsz
  have hD := hD0.self (sz := s.heap.size)
  generalize hAe : va_A [(h0, .inr (1, [.int 0, .int (-1), .int 0, .ref h1])), (h1, .inr (0, [.int 0, .ref z.1, .int 0]))] s.heap.size = A at hD hX ⊢
  have hA : ∀ q : Nat, s.heap.size ≤ q → A q := fun q h => by rw [← hAe]; exact Or.inr h
  have hS : va_S A s.heap s.heap [] := va_S.rf
  have hG : s.heap.size + 0 ≤ s.heap.size := Nat.le_refl _
  have hl := lv_entry ([.ref h0]) (n := 1) (Nat.le_of_ble_eq_true rfl)
  rw [lg_entry_eq]
  generalize (lg_sl ([.ref h0]) ++ List.replicate (1 - (lg_sl ([.ref h0])).length) Slot.unset).toArray = ls at hl ⊢
  have hl : lv_has ls 1 [(0, .ref h0)] := hl
  refine lv_aload_n hx hb dJx35411_hasNext_aae02_0 rfl (lv_at hl 0 rfl) ?_
  refine va_get (D := (dC, dI)) (ci := 1) (v := .int 0) (C := RJx35411) (T := TJx35411) (N := 4) hx hb hts in_Jx35411 hown hK hP 0 rfl rfl 0 (by decide) (hts _ q_259) (fun _ h9 => h9) rfl dJx35411_hasNext_aae02_1 ?_
  refine lv_aload_n hx hb dJx35411_hasNext_aae02_4 rfl (lv_at hl 0 rfl) ?_
  refine va_get (D := (dC, dI)) (ci := 1) (v := .ref h1) (C := RJx35411) (T := TJx35411) (N := 4) hx hb hts in_Jx35411 hown hK hP 0 rfl rfl 3 (by decide) (hts _ q_247) (fun _ h9 => h9) rfl dJx35411_hasNext_aae02_5 ?_
  refine va_getN (D := (dC, dI)) (ci := 0) (v := .int 0) (C := RJx4a65c) (T := TJx4a65c) (N := 3) hx hb hts in_Jx4a65c hown hK hP 1 rfl rfl 2 (by decide) (va_Nw.use rfl hT.2.2.2.2.1) (fun _ h9 => h9) rfl dJx35411_hasNext_aae02_8 ?_
  refine lv_icmp_eq (tgt := 18) hx hb dJx35411_hasNext_aae02_11 (by decide) (fun _ => ?_) (fun cz => absurd (by decide) cz)
  refine lv_iconst (v := 0) hx hb dJx35411_hasNext_aae02_18 (by decide) ?_
  exact W.zret (v := 0) (ty := .boolean) hx hb hr rfl (fun t9 ht9 hW9 => ⟨⟨0, (), rfl, rfl, ⟨pq_mk (wc := [(h0, .inr (1, [.int 0, .int (-1), .int 0, .ref h1])), (h1, .inr (0, [.int 0, .ref z.1, .int 0]))]) (tc := []) hP hD hK [0, 1] [] rfl rfl rfl rfl ht9 hW9, by rw [ht9]; exact Nat.le_trans (Nat.add_le_add_left (Nat.le_of_ble_eq_true rfl) _) hG⟩⟩, hS.F ht9⟩) hS.2.2 dJx35411_hasNext_aae02_19

set_option maxHeartbeats 4000000 in
set_option maxRecDepth 100000 in
theorem k51_sources (l : Launch) (hl9 : l.stackTraces = false) (dC : Nat → ClassId) (dI : Nat → Nat → Nat) (z : XZ) (h0 h1 : Nat) (o0 o1 o2 : Nat) (sz : Nat) : Met l yX9_sources (.code yX9_sources cX9_sources 4 (some .int) :: wsL_law) ({ frames := 3, cells := 1, slots := 4, locals := 57 }) (va_Pc [.ref h0] (PC (dC, dI) [(h0, .inr (8, [.int 0, .ref h1, .ref o0, .ref o1, .ref o2, .int 0])), (h1, .inr (0, [.int 0, .ref z.1, .int 0]))] [] sz z)) (va_Qi (fun (r : Int32) (_ : Unit) => r = 0) (fun (_ : Unit) (t : State) => PG (dC, dI) [(h0, .inr (8, [.int 0, .ref h1, .ref o0, .ref o1, .ref o2, .int 0])), (h1, .inr (0, [.int 0, .ref z.1, .int 0]))] [] (va_A [(h0, .inr (8, [.int 0, .ref h1, .ref o0, .ref o1, .ref o2, .int 0])), (h1, .inr (0, [.int 0, .ref z.1, .int 0]))] sz) sz 1 t) (va_A [(h0, .inr (8, [.int 0, .ref h1, .ref o0, .ref o1, .ref o2, .int 0])), (h1, .inr (0, [.int 0, .ref z.1, .int 0]))] sz)) 1 4 (va_A [(h0, .inr (8, [.int 0, .ref h1, .ref o0, .ref o1, .ref o2, .int 0])), (h1, .inr (0, [.int 0, .ref z.1, .int 0]))] sz) := by
  refine Met.ofW (cc := cX9_sources) (maxL := 4) (ret := (some .int)) (by decide) rfl ?_
  intro p e s m args below meth c s₁ B hml hv
  obtain ⟨rfl, hsz, hP, hK, hD0, hX, hT⟩ := hv
  have hx := B.exec
  have hb := B.bytes
  have hr := B.returns
  have hts0 := atoms_spec (ws := .code yX9_sources cX9_sources 4 (some .int) :: wsL_law) B.pre
  have hts := xTail hts0
  have hown : s.vm.findClass RX9 = some m.cls := findClass_of_methodNamed B.named
  have hlocks := B.notSynchronized
  subst hsz
  have hD := hD0.self (sz := s.heap.size)
  generalize hAe : va_A [(h0, .inr (8, [.int 0, .ref h1, .ref o0, .ref o1, .ref o2, .int 0])), (h1, .inr (0, [.int 0, .ref z.1, .int 0]))] s.heap.size = A at hD hX ⊢
  have hA : ∀ q : Nat, s.heap.size ≤ q → A q := fun q h => by rw [← hAe]; exact Or.inr h
  have hS : va_S A s.heap s.heap [] := va_S.rf
  have hG : s.heap.size + 0 ≤ s.heap.size := Nat.le_refl _
  have hl := lv_entry ([.ref h0]) (n := 4) (Nat.le_of_ble_eq_true rfl)
  rw [lg_entry_eq]
  generalize (lg_sl ([.ref h0]) ++ List.replicate (4 - (lg_sl ([.ref h0])).length) Slot.unset).toArray = ls at hl ⊢
  have hl : lv_has ls 4 [(0, .ref h0)] := hl
  refine lv_iconst (v := 0) hx hb dX9_sources_0 (by decide) ?_
  refine lv_istore_n (lv' := [(1, .int 0), (0, .ref h0)]) hx hb dX9_sources_1 rfl hl (by decide) rfl (fun ls hl => ?_)
  refine lv_aload_n hx hb dX9_sources_2 rfl (lv_at hl 1 rfl) ?_
  refine va_get (D := (dC, dI)) (ci := 8) (v := .ref h1) (C := RX9) (T := TX9) (N := 6) hx hb hts in_X9 hown hK hP 0 rfl rfl 1 (by decide) (hts _ q_64) (fun _ h9 => h9) rfl dX9_sources_3 ?_
  have hF1 := va_free (wc := [(h1, .inr (0, [.int 0, .ref z.1, .int 0]))]) hD hS hA [1] rfl
  refine va_callr (va_runV (As := []) (rest := []) ⟨hx, hb, hml, hown, hts⟩ (k49_iterator l hl9 dC dI z h1 s.heap.size) (cwV 0 hts (gV q_256 q_257 q_258 q_12 q_255) rfl rfl rfl (by decide +kernel) ⟨Nat.le_of_ble_eq_true rfl, Nat.le_of_ble_eq_true rfl⟩) ⟨pc_blind, va_recv hK hP (ci := 0) (q0 := 1) rfl rfl, fun U hU hW => ⟨rfl, pc_mk hP hD hK hS hX hT [1] [] rfl rfl rfl rfl hF1 hU hW⟩⟩ rfl rfl hl.1 rfl (lv_room (Nat.le_of_ble_eq_true rfl)) dX9_sources_6 ⟨(Nat.le_of_ble_eq_true rfl), (Nat.le_of_ble_eq_true rfl)⟩) hS (fun q9 _ h9 => hF1 q9 h9) hF1 (fun u3 r4 t3 H3 L3 ht3 hvm3 hw3 hB3 hz3 hk3 hS => ?_)
  obtain ⟨a5, hr3, hB3⟩ := hB3
  obtain ⟨hP, hD, hK⟩ := pq_join (wr := [(h0, .inr (8, [.int 0, .ref h1, .ref o0, .ref o1, .ref o2, .int 0]))]) (tr := []) (wz := [(h0, .inr (8, [.int 0, .ref h1, .ref o0, .ref o1, .ref o2, .int 0])), (h1, .inr (0, [.int 0, .ref z.1, .int 0])), (a5, .inr (1, [.int 0, .int (-1), .int 0, .ref h1]))]) (tz := []) hP hD hK [1] [0] [] rfl rfl (by decide) (by decide) rfl hk3 hF1 hB3.1 ht3 hvm3 rfl rfl
  have hG : s.heap.size + 1 ≤ H3.size := va_gr (g := 0) (g1 := 1) hG (by rw [← ht3]; exact hB3.2)
  refine W.eq (g2 := F0 m 9 ls [.ref a5]) (by rw [hr3]) ?_
  refine W.widen (k := 1) (n := 4) (by decide) (by decide) ?_
  refine lv_astore_n (lv' := [(2, .ref a5), (1, .int 0), (0, .ref h0)]) hx hb dX9_sources_9 rfl hl (by decide) rfl (fun ls hl => ?_)
  refine lv_aload_n hx hb dX9_sources_10 rfl (lv_at hl 0 rfl) ?_
  have hF6 := va_free (wc := [(a5, .inr (1, [.int 0, .int (-1), .int 0, .ref h1])), (h1, .inr (0, [.int 0, .ref z.1, .int 0]))]) hD hS hA [2, 1] rfl
  refine va_callFi (va_runF (As := []) (rest := []) (hK.1 1 _ rfl).2 ⟨hx, hb, hml, hown, hts⟩ (k50_hasNext l hl9 dC dI z a5 h1 H3.size) (va_cwF 0 hts (gF q_261 q_262 q_263 q_246 q_260) rfl rfl rfl hT.2.2.2.2.2.2.1 (by decide +kernel) ⟨Nat.le_of_ble_eq_true rfl, Nat.le_of_ble_eq_true rfl⟩) ⟨pc_blind, va_recv hK hP (ci := 1) (q0 := 2) rfl rfl, fun U hU hW => ⟨rfl, pc_mk hP hD hK hS hX hT [2, 1] [] rfl rfl rfl rfl hF6 hU hW⟩⟩ rfl rfl hl.1 rfl (lv_room (Nat.le_of_ble_eq_true rfl)) dX9_sources_11 ⟨(Nat.le_of_ble_eq_true rfl), (Nat.le_of_ble_eq_true rfl)⟩) hS (fun q9 _ h9 => hF6 q9 h9) hF6 (fun r9 u8 t8 H8 L8 ht8 hvm8 hw8 hB8 hz8 hk8 hS => ?_)
  obtain ⟨hP, hD, hK⟩ := pq_join (wr := [(h0, .inr (8, [.int 0, .ref h1, .ref o0, .ref o1, .ref o2, .int 0]))]) (tr := []) (wz := [(h0, .inr (8, [.int 0, .ref h1, .ref o0, .ref o1, .ref o2, .int 0])), (a5, .inr (1, [.int 0, .int (-1), .int 0, .ref h1])), (h1, .inr (0, [.int 0, .ref z.1, .int 0]))]) (tz := []) hP hD hK [2, 1] [0] [] rfl rfl (by decide) (by decide) rfl hk8 hF6 hB8.1 ht8 hvm8 rfl rfl
  have hG : s.heap.size + 1 ≤ H8.size := Nat.le_trans hG hz8
  refine W.eq (g2 := F0 m 16 ls [.int 0]) (by rw [hw8]) ?_
  refine lv_if_eq (tgt := 47) hx hb dX9_sources_16 (by decide) (fun _ => ?_) (fun cz => absurd (by decide) cz)
  refine lv_iload_n hx hb dX9_sources_47 rfl (lv_at hl 1 rfl) ?_
  exact W.iret (v := 0) hx hb hr (fun t9 ht9 hW9 => ⟨⟨0, (), rfl, rfl, ⟨pq_mk (wc := [(h0, .inr (8, [.int 0, .ref h1, .ref o0, .ref o1, .ref o2, .int 0])), (h1, .inr (0, [.int 0, .ref z.1, .int 0]))]) (tc := []) hP hD hK [0, 2] [] rfl rfl rfl rfl ht9 hW9, by rw [ht9]; exact Nat.le_trans (Nat.add_le_add_left (Nat.le_of_ble_eq_true rfl) _) hG⟩⟩, hS.F ht9⟩) hS.2.2 dX9_sources_48

set_option maxHeartbeats 4000000 in
set_option maxRecDepth 100000 in
theorem k52_fails (l : Launch) (hl9 : l.stackTraces = false) (dC : Nat → ClassId) (dI : Nat → Nat → Nat) (z : XZ) (h0 : Nat) (o0 o1 o2 o3 : Nat) (sz : Nat) : Met l yX9_fails (.code yX9_fails cX9_fails 3 (some .boolean) :: wsL_law) ({ frames := 0, cells := 0, slots := 0, locals := 0 }) (va_Pc [.ref h0, .int 0, .int 1] (PC (dC, dI) [(h0, .inr (8, [.int 0, .ref o0, .ref o1, .ref o2, .ref o3, .int 0]))] [] sz z)) (va_Qi (fun (r : Int32) (_ : Unit) => r = 0) (fun (_ : Unit) (t : State) => PG (dC, dI) [(h0, .inr (8, [.int 0, .ref o0, .ref o1, .ref o2, .ref o3, .int 0]))] [] (va_A [(h0, .inr (8, [.int 0, .ref o0, .ref o1, .ref o2, .ref o3, .int 0]))] sz) sz 0 t) (va_A [(h0, .inr (8, [.int 0, .ref o0, .ref o1, .ref o2, .ref o3, .int 0]))] sz)) 0 0 (va_A [(h0, .inr (8, [.int 0, .ref o0, .ref o1, .ref o2, .ref o3, .int 0]))] sz) := by
  refine Met.ofW (cc := cX9_fails) (maxL := 3) (ret := (some .boolean)) (by decide) rfl ?_
  intro p e s m args below meth c s₁ B hml hv
  obtain ⟨rfl, hsz, hP, hK, hD0, hX, hT⟩ := hv
  have hx := B.exec
  have hb := B.bytes
  have hr := B.returns
  have hts0 := atoms_spec (ws := .code yX9_fails cX9_fails 3 (some .boolean) :: wsL_law) B.pre
  have hts := xTail hts0
  have hown : s.vm.findClass RX9 = some m.cls := findClass_of_methodNamed B.named
  have hlocks := B.notSynchronized
  subst hsz
  have hD := hD0.self (sz := s.heap.size)
  generalize hAe : va_A [(h0, .inr (8, [.int 0, .ref o0, .ref o1, .ref o2, .ref o3, .int 0]))] s.heap.size = A at hD hX ⊢
  have hA : ∀ q : Nat, s.heap.size ≤ q → A q := fun q h => by rw [← hAe]; exact Or.inr h
  have hS : va_S A s.heap s.heap [] := va_S.rf
  have hG : s.heap.size + 0 ≤ s.heap.size := Nat.le_refl _
  have hl := lv_entry ([.ref h0, .int 0, .int 1]) (n := 3) (Nat.le_of_ble_eq_true rfl)
  rw [lg_entry_eq]
  generalize (lg_sl ([.ref h0, .int 0, .int 1]) ++ List.replicate (3 - (lg_sl ([.ref h0, .int 0, .int 1])).length) Slot.unset).toArray = ls at hl ⊢
  have hl : lv_has ls 3 [(0, .ref h0), (1, .int 0), (2, .int 1)] := hl
  refine lv_iload_n hx hb dX9_fails_0 rfl (lv_at hl 1 rfl) ?_
  refine lv_if_eq (tgt := 16) hx hb dX9_fails_1 (by decide) (fun _ => ?_) (fun cz => absurd (by decide) cz)
  refine lv_aload_n hx hb dX9_fails_16 rfl (lv_at hl 0 rfl) ?_
  refine va_get (D := (dC, dI)) (ci := 8) (v := .int 0) (C := RX9) (T := TX9) (N := 6) hx hb hts in_X9 hown hK hP 0 rfl rfl 0 (by decide) (hts _ q_243) (fun _ h9 => h9) rfl dX9_fails_17 ?_
  refine lv_if_eq (tgt := 27) hx hb dX9_fails_20 (by decide) (fun _ => ?_) (fun cz => absurd (by decide) cz)
  refine lv_iconst (v := 0) hx hb dX9_fails_27 (by decide) ?_
  exact W.zret (v := 0) (ty := .boolean) hx hb hr rfl (fun t9 ht9 hW9 => ⟨⟨0, (), rfl, rfl, ⟨pq_mk (wc := [(h0, .inr (8, [.int 0, .ref o0, .ref o1, .ref o2, .ref o3, .int 0]))]) (tc := []) hP hD hK [0] [] rfl rfl rfl rfl ht9 hW9, by rw [ht9]; exact Nat.le_trans (Nat.add_le_add_left (Nat.le_of_ble_eq_true rfl) _) hG⟩⟩, hS.F ht9⟩) hS.2.2 dX9_fails_28

set_option maxHeartbeats 4000000 in
set_option maxRecDepth 100000 in
theorem k53_fails (l : Launch) (hl9 : l.stackTraces = false) (dC : Nat → ClassId) (dI : Nat → Nat → Nat) (z : XZ) (h0 : Nat) (o0 o1 o2 o3 : Nat) (sz : Nat) : Met l yX9_fails (.code yX9_fails cX9_fails 3 (some .boolean) :: wsL_law) ({ frames := 0, cells := 0, slots := 0, locals := 0 }) (va_Pc [.ref h0, .int 0, .int 2] (PC (dC, dI) [(h0, .inr (8, [.int 0, .ref o0, .ref o1, .ref o2, .ref o3, .int 0]))] [] sz z)) (va_Qi (fun (r : Int32) (_ : Unit) => r = 0) (fun (_ : Unit) (t : State) => PG (dC, dI) [(h0, .inr (8, [.int 0, .ref o0, .ref o1, .ref o2, .ref o3, .int 0]))] [] (va_A [(h0, .inr (8, [.int 0, .ref o0, .ref o1, .ref o2, .ref o3, .int 0]))] sz) sz 0 t) (va_A [(h0, .inr (8, [.int 0, .ref o0, .ref o1, .ref o2, .ref o3, .int 0]))] sz)) 0 0 (va_A [(h0, .inr (8, [.int 0, .ref o0, .ref o1, .ref o2, .ref o3, .int 0]))] sz) := by
  refine Met.ofW (cc := cX9_fails) (maxL := 3) (ret := (some .boolean)) (by decide) rfl ?_
  intro p e s m args below meth c s₁ B hml hv
  obtain ⟨rfl, hsz, hP, hK, hD0, hX, hT⟩ := hv
  have hx := B.exec
  have hb := B.bytes
  have hr := B.returns
  have hts0 := atoms_spec (ws := .code yX9_fails cX9_fails 3 (some .boolean) :: wsL_law) B.pre
  have hts := xTail hts0
  have hown : s.vm.findClass RX9 = some m.cls := findClass_of_methodNamed B.named
  have hlocks := B.notSynchronized
  subst hsz
  have hD := hD0.self (sz := s.heap.size)
  generalize hAe : va_A [(h0, .inr (8, [.int 0, .ref o0, .ref o1, .ref o2, .ref o3, .int 0]))] s.heap.size = A at hD hX ⊢
  have hA : ∀ q : Nat, s.heap.size ≤ q → A q := fun q h => by rw [← hAe]; exact Or.inr h
  have hS : va_S A s.heap s.heap [] := va_S.rf
  have hG : s.heap.size + 0 ≤ s.heap.size := Nat.le_refl _
  have hl := lv_entry ([.ref h0, .int 0, .int 2]) (n := 3) (Nat.le_of_ble_eq_true rfl)
  rw [lg_entry_eq]
  generalize (lg_sl ([.ref h0, .int 0, .int 2]) ++ List.replicate (3 - (lg_sl ([.ref h0, .int 0, .int 2])).length) Slot.unset).toArray = ls at hl ⊢
  have hl : lv_has ls 3 [(0, .ref h0), (1, .int 0), (2, .int 2)] := hl
  refine lv_iload_n hx hb dX9_fails_0 rfl (lv_at hl 1 rfl) ?_
  refine lv_if_eq (tgt := 16) hx hb dX9_fails_1 (by decide) (fun _ => ?_) (fun cz => absurd (by decide) cz)
  refine lv_aload_n hx hb dX9_fails_16 rfl (lv_at hl 0 rfl) ?_
  refine va_get (D := (dC, dI)) (ci := 8) (v := .int 0) (C := RX9) (T := TX9) (N := 6) hx hb hts in_X9 hown hK hP 0 rfl rfl 0 (by decide) (hts _ q_243) (fun _ h9 => h9) rfl dX9_fails_17 ?_
  refine lv_if_eq (tgt := 27) hx hb dX9_fails_20 (by decide) (fun _ => ?_) (fun cz => absurd (by decide) cz)
  refine lv_iconst (v := 0) hx hb dX9_fails_27 (by decide) ?_
  exact W.zret (v := 0) (ty := .boolean) hx hb hr rfl (fun t9 ht9 hW9 => ⟨⟨0, (), rfl, rfl, ⟨pq_mk (wc := [(h0, .inr (8, [.int 0, .ref o0, .ref o1, .ref o2, .ref o3, .int 0]))]) (tc := []) hP hD hK [0] [] rfl rfl rfl rfl ht9 hW9, by rw [ht9]; exact Nat.le_trans (Nat.add_le_add_left (Nat.le_of_ble_eq_true rfl) _) hG⟩⟩, hS.F ht9⟩) hS.2.2 dX9_fails_28

set_option maxHeartbeats 4000000 in
set_option maxRecDepth 100000 in
theorem k54_init (l : Launch) (hl9 : l.stackTraces = false) (dC : Nat → ClassId) (dI : Nat → Nat → Nat) (z : XZ) (h0 : Nat) (sz : Nat) : Met l yX8_init (.code yX8_init cX8_init 2 none :: wsL_law) ({ frames := 1, cells := 0, slots := 0, locals := 16 }) (va_Pc [.ref h0, .int 105] (PC (dC, dI) [(h0, .inr (7, [.int 0, .int 0, .int 0, .int 0, .int 0, .int 0]))] [] sz z)) (va_Qv (fun (_ : Unit) => True) (fun (_ : Unit) (t : State) => PG (dC, dI) [(h0, .inr (7, [.int 105, .int 120, .int 0, .int (-1), .int 0, .int (-1)]))] [] (va_A [(h0, .inr (7, [.int 0, .int 0, .int 0, .int 0, .int 0, .int 0]))] sz) sz 0 t) (va_A [(h0, .inr (7, [.int 0, .int 0, .int 0, .int 0, .int 0, .int 0]))] sz)) 0 0 (va_A [(h0, .inr (7, [.int 0, .int 0, .int 0, .int 0, .int 0, .int 0]))] sz) := by
  refine Met.ofW (cc := cX8_init) (maxL := 2) (ret := none) (by decide) rfl ?_
  intro p e s m args below meth c s₁ B hml hv
  obtain ⟨rfl, hsz, hP, hK, hD0, hX, hT⟩ := hv
  have hx := B.exec
  have hb := B.bytes
  have hr := B.returns
  have hts0 := atoms_spec (ws := .code yX8_init cX8_init 2 none :: wsL_law) B.pre
  have hts := xTail hts0
  have hown : s.vm.findClass RX8 = some m.cls := findClass_of_methodNamed B.named
  have hlocks := B.notSynchronized
  have hin : meth.name = "<init>" := (name_of_methodNamed B.named B.method).1
  subst hsz
  have hD := hD0.self (sz := s.heap.size)
  generalize hAe : va_A [(h0, .inr (7, [.int 0, .int 0, .int 0, .int 0, .int 0, .int 0]))] s.heap.size = A at hD hX ⊢
  have hA : ∀ q : Nat, s.heap.size ≤ q → A q := fun q h => by rw [← hAe]; exact Or.inr h
  have hS : va_S A s.heap s.heap [] := va_S.rf
  have hG : s.heap.size + 0 ≤ s.heap.size := Nat.le_refl _
  have hl := lv_entry ([.ref h0, .int 105]) (n := 2) (Nat.le_of_ble_eq_true rfl)
  rw [lg_entry_eq]
  generalize (lg_sl ([.ref h0, .int 105]) ++ List.replicate (2 - (lg_sl ([.ref h0, .int 105])).length) Slot.unset).toArray = ls at hl ⊢
  have hl : lv_has ls 2 [(0, .ref h0), (1, .int 105)] := hl
  refine lv_aload_n hx hb dX8_init_0 rfl (lv_at hl 0 rfl) ?_
  refine W.objInit hx hb hown (hts _ q_276) (hts _ q_4) (hts _ q_5) rfl (by rw [hml]; exact hl.1) rfl dX8_init_1 (Nat.le_of_ble_eq_true rfl) (Nat.le_of_ble_eq_true rfl) ?_
  refine W.eq (g2 := F0 m 4 ls []) rfl ?_
  refine lv_aload_n hx hb dX8_init_4 rfl (lv_at hl 0 rfl) ?_
  refine lv_bipush (v := 120) hx hb dX8_init_5 (by decide) ?_
  refine va_put (D := (dC, dI)) (ci := 7) (v := .int 120) (ty := .char) (C := RX8) (T := TX8) (N := 6) hx hb hts in_X8 tyX8 tyX8_ok nmX8 hown hK hP hD (va_Sre hS) 0 rfl rfl 1 (by decide) (hts _ q_277) (fun _ h9 => h9) rfl (by decide +kernel) rfl rfl (Nat.le_of_ble_eq_true rfl) dX8_init_7 (fun H1 _ hP hD hS' => ?_)
  have hG : s.heap.size + 0 ≤ H1.size := Nat.le_trans hG hS'.1
  have hS := va_Str hS hS'
  have hP : va_P (dC, dI) xCl [(h0, .inr (7, [.int 0, .int 120, .int 0, .int 0, .int 0, .int 0]))] H1 := hP
  have hD : va_D A [(h0, .inr (7, [.int 0, .int 120, .int 0, .int 0, .int 0, .int 0]))] := hD
  refine lv_aload_n hx hb dX8_init_10 rfl (lv_at hl 0 rfl) ?_
  refine lv_iconst (v := (-1)) hx hb dX8_init_11 (by decide) ?_
  refine va_put (D := (dC, dI)) (ci := 7) (v := .int (-1)) (ty := .int) (C := RX8) (T := TX8) (N := 6) hx hb hts in_X8 tyX8 tyX8_ok nmX8 hown hK hP hD (va_Sre hS) 0 rfl rfl 3 (by decide) (hts _ q_278) (fun _ h9 => h9) rfl (by decide +kernel) rfl rfl (Nat.le_of_ble_eq_true rfl) dX8_init_12 (fun H2 _ hP hD hS' => ?_)
  have hG : s.heap.size + 0 ≤ H2.size := Nat.le_trans hG hS'.1
  have hS := va_Str hS hS'
  have hP : va_P (dC, dI) xCl [(h0, .inr (7, [.int 0, .int 120, .int 0, .int (-1), .int 0, .int 0]))] H2 := hP
  have hD : va_D A [(h0, .inr (7, [.int 0, .int 120, .int 0, .int (-1), .int 0, .int 0]))] := hD
  refine lv_aload_n hx hb dX8_init_15 rfl (lv_at hl 0 rfl) ?_
  refine lv_iconst (v := (-1)) hx hb dX8_init_16 (by decide) ?_
  refine va_put (D := (dC, dI)) (ci := 7) (v := .int (-1)) (ty := .int) (C := RX8) (T := TX8) (N := 6) hx hb hts in_X8 tyX8 tyX8_ok nmX8 hown hK hP hD (va_Sre hS) 0 rfl rfl 5 (by decide) (hts _ q_279) (fun _ h9 => h9) rfl (by decide +kernel) rfl rfl (Nat.le_of_ble_eq_true rfl) dX8_init_17 (fun H3 _ hP hD hS' => ?_)
  have hG : s.heap.size + 0 ≤ H3.size := Nat.le_trans hG hS'.1
  have hS := va_Str hS hS'
  have hP : va_P (dC, dI) xCl [(h0, .inr (7, [.int 0, .int 120, .int 0, .int (-1), .int 0, .int (-1)]))] H3 := hP
  have hD : va_D A [(h0, .inr (7, [.int 0, .int 120, .int 0, .int (-1), .int 0, .int (-1)]))] := hD
  refine lv_aload_n hx hb dX8_init_20 rfl (lv_at hl 0 rfl) ?_
  refine lv_iload_n hx hb dX8_init_21 rfl (lv_at hl 1 rfl) ?_
  refine va_putF (D := (dC, dI)) (ci := 7) (v := .int 105) (ty := .char) (C := RX8) (T := TX8) (N := 6) hx hb hts in_X8 tyX8 tyX8_ok nmX8 hown hK hP hD (va_Sre hS) 0 rfl rfl 0 (by decide) (hts _ q_280) (fun _ h9 => h9) rfl hin rfl (by decide +kernel) rfl rfl (Nat.le_of_ble_eq_true rfl) dX8_init_22 (fun H4 _ hP hD hS' => ?_)
  have hG : s.heap.size + 0 ≤ H4.size := Nat.le_trans hG hS'.1
  have hS := va_Str hS hS'
  have hP : va_P (dC, dI) xCl [(h0, .inr (7, [.int 105, .int 120, .int 0, .int (-1), .int 0, .int (-1)]))] H4 := hP
  have hD : va_D A [(h0, .inr (7, [.int 105, .int 120, .int 0, .int (-1), .int 0, .int (-1)]))] := hD
  exact W.vret hx hb hr (fun t9 ht9 hW9 => ⟨⟨(), rfl, trivial, ⟨pq_mk (wc := [(h0, .inr (7, [.int 105, .int 120, .int 0, .int (-1), .int 0, .int (-1)]))]) (tc := []) hP hD hK [0] [] rfl rfl rfl rfl ht9 hW9, by rw [ht9]; exact Nat.le_trans (Nat.add_le_add_left (Nat.le_of_ble_eq_true rfl) _) hG⟩⟩, hS.F ht9⟩) hS.2.2 dX8_init_25

set_option maxHeartbeats 4000000 in
set_option maxRecDepth 100000 in
theorem k55_add (l : Launch) (hl9 : l.stackTraces = false) (dC : Nat → ClassId) (dI : Nat → Nat → Nat) (z : XZ) (h0 h1 : Nat) (sz : Nat) : Met l yJx4a65c_add_72be8 (.code yJx4a65c_add_72be8 cJx4a65c_add_72be8 4 none :: wsL_law) ({ frames := 3, cells := 1, slots := 10, locals := 65 }) (va_Pc [.ref h0, .ref h1, .ref z.1, .int 0] (PC (dC, dI) [(h0, .inr (0, [.int 1, .ref z.1, .int 0])), (h1, .inr (7, [.int 105, .int 120, .int 0, .int (-1), .int 0, .int (-1)]))] [] sz z)) (va_Qv (fun (_ : Unit) => True) (fun (_ : Unit) (t : State) => ∃ (n0 : Nat), ∃ (m0 : ClassId), PG (dC, dI) [(h0, .inr (0, [.int 1, .ref n0, .int 1])), (h1, .inr (7, [.int 105, .int 120, .int 0, .int (-1), .int 0, .int (-1)])), (n0, .inl (m0, 10, .inr (.inr (.inr (.inr (va_up (fun _ => none) 0 (some h1)))))))] [(m0, .object "java/lang/Object")] (va_A [(h0, .inr (0, [.int 1, .ref z.1, .int 0])), (h1, .inr (7, [.int 105, .int 120, .int 0, .int (-1), .int 0, .int (-1)]))] sz) sz 1 t) (va_A [(h0, .inr (0, [.int 1, .ref z.1, .int 0])), (h1, .inr (7, [.int 105, .int 120, .int 0, .int (-1), .int 0, .int (-1)]))] sz)) 1 10 (va_A [(h0, .inr (0, [.int 1, .ref z.1, .int 0])), (h1, .inr (7, [.int 105, .int 120, .int 0, .int (-1), .int 0, .int (-1)]))] sz) := by
  refine Met.ofW (cc := cJx4a65c_add_72be8) (maxL := 4) (ret := none) (by decide) rfl ?_
  intro p e s m args below meth c s₁ B hml hv
  obtain ⟨rfl, hsz, hP, hK, hD0, hX, hT⟩ := hv
  have hx := B.exec
  have hb := B.bytes
  have hr := B.returns
  have hts0 := atoms_spec (ws := .code yJx4a65c_add_72be8 cJx4a65c_add_72be8 4 none :: wsL_law) B.pre
  have hts := xTail hts0
  have hown : s.vm.findClass RJx4a65c = some m.cls := findClass_of_methodNamed B.named
  have hlocks := B.notSynchronized
  subst hsz
  have hD := hD0.self (sz := s.heap.size)
  generalize hAe : va_A [(h0, .inr (0, [.int 1, .ref z.1, .int 0])), (h1, .inr (7, [.int 105, .int 120, .int 0, .int (-1), .int 0, .int (-1)]))] s.heap.size = A at hD hX ⊢
  have hA : ∀ q : Nat, s.heap.size ≤ q → A q := fun q h => by rw [← hAe]; exact Or.inr h
  have hS : va_S A s.heap s.heap [] := va_S.rf
  have hG : s.heap.size + 0 ≤ s.heap.size := Nat.le_refl _
  have hl := lv_entry ([.ref h0, .ref h1, .ref z.1, .int 0]) (n := 4) (Nat.le_of_ble_eq_true rfl)
  rw [lg_entry_eq]
  generalize (lg_sl ([.ref h0, .ref h1, .ref z.1, .int 0]) ++ List.replicate (4 - (lg_sl ([.ref h0, .ref h1, .ref z.1, .int 0])).length) Slot.unset).toArray = ls at hl ⊢
  have hl : lv_has ls 4 [(0, .ref h0), (1, .ref h1), (2, .ref z.1), (3, .int 0)] := hl
  refine lv_iload_n hx hb dJx4a65c_add_72be8_0 rfl (lv_at hl 3 rfl) ?_
  refine lv_aload_n hx hb dJx4a65c_add_72be8_1 rfl (lv_at hl 2 rfl) ?_
  refine va_tlen hx hb hX.1.2 hS (v := 0) rfl dJx4a65c_add_72be8_2 ?_
  refine lv_icmp_ne (tgt := 11) hx hb dJx4a65c_add_72be8_3 (by decide) (fun cz => absurd (by decide) cz) (fun _ => ?_)
  refine lv_aload_n hx hb dJx4a65c_add_72be8_6 rfl (lv_at hl 0 rfl) ?_
  have hF1 := va_free (wc := [(h0, .inr (0, [.int 1, .ref z.1, .int 0]))]) hD hS hA [0] rfl
  refine va_callr (va_runV (As := []) (rest := []) ⟨hx, hb, hml, hown, hts⟩ (k14_grow l hl9 dC dI z h0 s.heap.size) (cwV 0 hts (gV q_119 q_120 q_121 q_12 q_118) rfl rfl rfl (by decide +kernel) ⟨Nat.le_of_ble_eq_true rfl, Nat.le_of_ble_eq_true rfl⟩) ⟨pc_blind, va_recv hK hP (ci := 0) (q0 := 0) rfl rfl, fun U hU hW => ⟨rfl, pc_mk hP hD hK hS hX hT [0] [] rfl rfl rfl rfl hF1 hU hW⟩⟩ rfl rfl hl.1 rfl (lv_room (Nat.le_of_ble_eq_true rfl)) dJx4a65c_add_72be8_7 ⟨(Nat.le_of_ble_eq_true rfl), (Nat.le_of_ble_eq_true rfl)⟩) hS (fun q9 _ h9 => hF1 q9 h9) hF1 (fun u3 r4 t3 H3 L3 ht3 hvm3 hw3 hB3 hz3 hk3 hS => ?_)
  obtain ⟨a5, k6, hr3, hB3⟩ := hB3
  obtain ⟨hP, hD, hK⟩ := pq_join (wr := [(h1, .inr (7, [.int 105, .int 120, .int 0, .int (-1), .int 0, .int (-1)]))]) (tr := []) (wz := [(h1, .inr (7, [.int 105, .int 120, .int 0, .int (-1), .int 0, .int (-1)])), (h0, .inr (0, [.int 1, .ref a5, .int 0])), (a5, .inl (k6, 10, .inr (.inr (.inr (.inr (fun _ => none))))))]) (tz := [(k6, .object "java/lang/Object")]) hP hD hK [0] [1] [] rfl rfl (by decide) (by decide) rfl hk3 hF1 hB3.1 ht3 hvm3 rfl rfl
  have hG : s.heap.size + 1 ≤ H3.size := va_gr (g := 0) (g1 := 1) hG (by rw [← ht3]; exact hB3.2)
  refine W.eq (g2 := F0 m 10 ls [.ref a5]) (by rw [hr3]) ?_
  refine W.widen (k := 1) (n := 10) (by decide) (by decide) ?_
  refine lv_astore_n (lv' := [(2, .ref a5), (0, .ref h0), (1, .ref h1), (3, .int 0)]) hx hb dJx4a65c_add_72be8_10 rfl hl (by decide) rfl (fun ls hl => ?_)
  refine lv_aload_n hx hb dJx4a65c_add_72be8_11 rfl (lv_at hl 0 rfl) ?_
  refine lv_iload_n hx hb dJx4a65c_add_72be8_12 rfl (lv_at hl 3 rfl) ?_
  refine lv_aload_n hx hb dJx4a65c_add_72be8_13 rfl (lv_at hl 2 rfl) ?_
  refine vb_astq (E := "java/lang/Object") (C := RX8) hx hb hK hP hD (va_Sre hS) 2 0 rfl rfl (va_recv hK hP (ci := 7) (q0 := 0) rfl rfl) (vb_asgC (hT.2.1.1 (RX8, "java/lang/Object") (by decide))) (i := 0) (by unfold vp_in; decide) dJx4a65c_add_72be8_14 (fun H7 _ hP hD hS' => ?_)
  have hG : s.heap.size + 1 ≤ H7.size := Nat.le_trans hG hS'.1
  have hS := va_Str hS hS'
  have hP : va_P (dC, dI) xCl [(h1, .inr (7, [.int 105, .int 120, .int 0, .int (-1), .int 0, .int (-1)])), (h0, .inr (0, [.int 1, .ref a5, .int 0])), (a5, .inl (k6, 10, .inr (.inr (.inr (.inr (va_up (fun _ => none) 0 (some h1)))))))] H7 := hP
  have hD : va_D A [(h1, .inr (7, [.int 105, .int 120, .int 0, .int (-1), .int 0, .int (-1)])), (h0, .inr (0, [.int 1, .ref a5, .int 0])), (a5, .inl (k6, 10, .inr (.inr (.inr (.inr (va_up (fun _ => none) 0 (some h1)))))))] := hD
  refine lv_aload_n hx hb dJx4a65c_add_72be8_15 rfl (lv_at hl 1 rfl) ?_
  refine lv_iload_n hx hb dJx4a65c_add_72be8_16 rfl (lv_at hl 3 rfl) ?_
  refine lv_iconst (v := 1) hx hb dJx4a65c_add_72be8_17 (by decide) ?_
  refine lv_iadd hx hb dJx4a65c_add_72be8_18 ?_
  refine lv_topi (fun y8 ey8 => ?_)
  obtain rfl : y8 = 1 := ey8.trans (by decide)
  refine va_put (D := (dC, dI)) (ci := 0) (v := .int 1) (ty := .int) (C := RJx4a65c) (T := TJx4a65c) (N := 3) hx hb hts in_Jx4a65c tyJx4a65c tyJx4a65c_ok nmJx4a65c hown hK hP hD (va_Sre hS) 1 rfl rfl 2 (by decide) (hts _ q_74) (fun _ h9 => h9) rfl (by decide +kernel) rfl rfl (Nat.le_of_ble_eq_true rfl) dJx4a65c_add_72be8_19 (fun H9 _ hP hD hS' => ?_)
  have hG : s.heap.size + 1 ≤ H9.size := Nat.le_trans hG hS'.1
  have hS := va_Str hS hS'
  have hP : va_P (dC, dI) xCl [(h1, .inr (7, [.int 105, .int 120, .int 0, .int (-1), .int 0, .int (-1)])), (h0, .inr (0, [.int 1, .ref a5, .int 1])), (a5, .inl (k6, 10, .inr (.inr (.inr (.inr (va_up (fun _ => none) 0 (some h1)))))))] H9 := hP
  have hD : va_D A [(h1, .inr (7, [.int 105, .int 120, .int 0, .int (-1), .int 0, .int (-1)])), (h0, .inr (0, [.int 1, .ref a5, .int 1])), (a5, .inl (k6, 10, .inr (.inr (.inr (.inr (va_up (fun _ => none) 0 (some h1)))))))] := hD
  exact W.vret hx hb hr (fun t9 ht9 hW9 => ⟨⟨(), rfl, trivial, ⟨a5, k6, ⟨pq_mk (wc := [(h0, .inr (0, [.int 1, .ref a5, .int 1])), (h1, .inr (7, [.int 105, .int 120, .int 0, .int (-1), .int 0, .int (-1)])), (a5, .inl (k6, 10, .inr (.inr (.inr (.inr (va_up (fun _ => none) 0 (some h1)))))))]) (tc := [(k6, .object "java/lang/Object")]) hP hD hK [1, 0, 2] [0] rfl rfl rfl rfl ht9 hW9, by rw [ht9]; exact Nat.le_trans (Nat.add_le_add_left (Nat.le_of_ble_eq_true rfl) _) hG⟩⟩⟩, hS.F ht9⟩) hS.2.2 dJx4a65c_add_72be8_22

set_option maxHeartbeats 4000000 in
set_option maxRecDepth 100000 in
theorem k56_add (l : Launch) (hl9 : l.stackTraces = false) (dC : Nat → ClassId) (dI : Nat → Nat → Nat) (z : XZ) (h0 h1 : Nat) (sz : Nat) : Met l yJx4a65c_add_9ea2d (.code yJx4a65c_add_9ea2d cJx4a65c_add_9ea2d 2 (some .boolean) :: wsL_law) ({ frames := 4, cells := 1, slots := 10, locals := 88 }) (va_Pc [.ref h0, .ref h1] (PC (dC, dI) [(h0, .inr (0, [.int 0, .ref z.1, .int 0])), (h1, .inr (7, [.int 105, .int 120, .int 0, .int (-1), .int 0, .int (-1)]))] [] sz z)) (va_Qi (fun (r : Int32) (_ : Unit) => r = 1) (fun (_ : Unit) (t : State) => ∃ (n0 : Nat), ∃ (m0 : ClassId), PG (dC, dI) [(h0, .inr (0, [.int 1, .ref n0, .int 1])), (h1, .inr (7, [.int 105, .int 120, .int 0, .int (-1), .int 0, .int (-1)])), (n0, .inl (m0, 10, .inr (.inr (.inr (.inr (va_up (fun _ => none) 0 (some h1)))))))] [(m0, .object "java/lang/Object")] (va_A [(h0, .inr (0, [.int 0, .ref z.1, .int 0])), (h1, .inr (7, [.int 105, .int 120, .int 0, .int (-1), .int 0, .int (-1)]))] sz) sz 1 t) (va_A [(h0, .inr (0, [.int 0, .ref z.1, .int 0])), (h1, .inr (7, [.int 105, .int 120, .int 0, .int (-1), .int 0, .int (-1)]))] sz)) 1 10 (va_A [(h0, .inr (0, [.int 0, .ref z.1, .int 0])), (h1, .inr (7, [.int 105, .int 120, .int 0, .int (-1), .int 0, .int (-1)]))] sz) := by
  refine Met.ofW (cc := cJx4a65c_add_9ea2d) (maxL := 2) (ret := (some .boolean)) (by decide) rfl ?_
  intro p e s m args below meth c s₁ B hml hv
  obtain ⟨rfl, hsz, hP, hK, hD0, hX, hT⟩ := hv
  have hx := B.exec
  have hb := B.bytes
  have hr := B.returns
  have hts0 := atoms_spec (ws := .code yJx4a65c_add_9ea2d cJx4a65c_add_9ea2d 2 (some .boolean) :: wsL_law) B.pre
  have hts := xTail hts0
  have hown : s.vm.findClass RJx4a65c = some m.cls := findClass_of_methodNamed B.named
  have hlocks := B.notSynchronized
  subst hsz
  have hD := hD0.self (sz := s.heap.size)
  generalize hAe : va_A [(h0, .inr (0, [.int 0, .ref z.1, .int 0])), (h1, .inr (7, [.int 105, .int 120, .int 0, .int (-1), .int 0, .int (-1)]))] s.heap.size = A at hD hX ⊢
  have hA : ∀ q : Nat, s.heap.size ≤ q → A q := fun q h => by rw [← hAe]; exact Or.inr h
  have hS : va_S A s.heap s.heap [] := va_S.rf
  have hG : s.heap.size + 0 ≤ s.heap.size := Nat.le_refl _
  have hl := lv_entry ([.ref h0, .ref h1]) (n := 2) (Nat.le_of_ble_eq_true rfl)
  rw [lg_entry_eq]
  generalize (lg_sl ([.ref h0, .ref h1]) ++ List.replicate (2 - (lg_sl ([.ref h0, .ref h1])).length) Slot.unset).toArray = ls at hl ⊢
  have hl : lv_has ls 2 [(0, .ref h0), (1, .ref h1)] := hl
  refine lv_aload_n hx hb dJx4a65c_add_9ea2d_0 rfl (lv_at hl 0 rfl) ?_
  refine lv_dup hx hb dJx4a65c_add_9ea2d_1 rfl ?_
  refine va_get (D := (dC, dI)) (ci := 0) (v := .int 0) (C := RJx4a65c) (T := TJx4a65c) (N := 3) hx hb hts in_Jx4a65c hown hK hP 0 rfl rfl 0 (by decide) (hts _ q_108) (u_same (hts _ q_107)) rfl dJx4a65c_add_9ea2d_2 ?_
  refine lv_iconst (v := 1) hx hb dJx4a65c_add_9ea2d_5 (by decide) ?_
  refine lv_iadd hx hb dJx4a65c_add_9ea2d_6 ?_
  refine lv_topi (fun y1 ey1 => ?_)
  obtain rfl : y1 = 1 := ey1.trans (by decide)
  refine va_put (D := (dC, dI)) (ci := 0) (v := .int 1) (ty := .int) (C := RJx4a65c) (T := TJx4a65c) (N := 3) hx hb hts in_Jx4a65c tyJx4a65c tyJx4a65c_ok nmJx4a65c hown hK hP hD (va_Sre hS) 0 rfl rfl 0 (by decide) (hts _ q_108) (u_same (hts _ q_107)) rfl (by decide +kernel) rfl rfl (Nat.le_of_ble_eq_true rfl) dJx4a65c_add_9ea2d_7 (fun H2 _ hP hD hS' => ?_)
  have hG : s.heap.size + 0 ≤ H2.size := Nat.le_trans hG hS'.1
  have hS := va_Str hS hS'
  have hP : va_P (dC, dI) xCl [(h0, .inr (0, [.int 1, .ref z.1, .int 0])), (h1, .inr (7, [.int 105, .int 120, .int 0, .int (-1), .int 0, .int (-1)]))] H2 := hP
  have hD : va_D A [(h0, .inr (0, [.int 1, .ref z.1, .int 0])), (h1, .inr (7, [.int 105, .int 120, .int 0, .int (-1), .int 0, .int (-1)]))] := hD
  refine lv_aload_n hx hb dJx4a65c_add_9ea2d_10 rfl (lv_at hl 0 rfl) ?_
  refine lv_aload_n hx hb dJx4a65c_add_9ea2d_11 rfl (lv_at hl 1 rfl) ?_
  refine lv_aload_n hx hb dJx4a65c_add_9ea2d_12 rfl (lv_at hl 0 rfl) ?_
  refine va_get (D := (dC, dI)) (ci := 0) (v := .ref z.1) (C := RJx4a65c) (T := TJx4a65c) (N := 3) hx hb hts in_Jx4a65c hown hK hP 0 rfl rfl 1 (by decide) (hts _ q_24) (fun _ h9 => h9) rfl dJx4a65c_add_9ea2d_13 ?_
  refine lv_aload_n hx hb dJx4a65c_add_9ea2d_16 rfl (lv_at hl 0 rfl) ?_
  refine va_get (D := (dC, dI)) (ci := 0) (v := .int 0) (C := RJx4a65c) (T := TJx4a65c) (N := 3) hx hb hts in_Jx4a65c hown hK hP 0 rfl rfl 2 (by decide) (hts _ q_74) (fun _ h9 => h9) rfl dJx4a65c_add_9ea2d_17 ?_
  have hF3 := va_free (wc := [(h0, .inr (0, [.int 1, .ref z.1, .int 0])), (h1, .inr (7, [.int 105, .int 120, .int 0, .int (-1), .int 0, .int (-1)]))]) hD hS hA [0, 1] rfl
  refine va_callv (va_runV (As := [.ref h1, .ref z.1, .int 0]) (rest := []) ⟨hx, hb, hml, hown, hts⟩ (k55_add l hl9 dC dI z h0 h1 H2.size) (cwV 3 hts (gV q_123 q_124 q_125 q_12 q_122) rfl rfl rfl (by decide +kernel) ⟨Nat.le_of_ble_eq_true rfl, Nat.le_of_ble_eq_true rfl⟩) ⟨pc_blind, va_recv hK hP (ci := 0) (q0 := 0) rfl rfl, fun U hU hW => ⟨rfl, pc_mk hP hD hK hS hX hT [0, 1] [] rfl rfl rfl rfl hF3 hU hW⟩⟩ rfl rfl hl.1 rfl (lv_room (Nat.le_of_ble_eq_true rfl)) dJx4a65c_add_9ea2d_20 ⟨(Nat.le_of_ble_eq_true rfl), (Nat.le_of_ble_eq_true rfl)⟩) hS (fun q9 _ h9 => hF3 q9 h9) hF3 (fun u5 t5 H5 L5 ht5 hvm5 hw5 hB5 hz5 hk5 hS => ?_)
  obtain ⟨a7, k8, hB5⟩ := hB5
  obtain ⟨hP, hD, hK⟩ := pq_join (wr := []) (tr := []) (wz := [(h0, .inr (0, [.int 1, .ref a7, .int 1])), (h1, .inr (7, [.int 105, .int 120, .int 0, .int (-1), .int 0, .int (-1)])), (a7, .inl (k8, 10, .inr (.inr (.inr (.inr (va_up (fun _ => none) 0 (some h1)))))))]) (tz := [(k8, .object "java/lang/Object")]) hP hD hK [0, 1] [] [] rfl rfl (by decide) (by decide) rfl hk5 hF3 hB5.1 ht5 hvm5 rfl rfl
  have hG : s.heap.size + 1 ≤ H5.size := va_gr (g := 0) (g1 := 1) hG (by rw [← ht5]; exact hB5.2)
  refine W.widen (k := 1) (n := 10) (by decide) (by decide) ?_
  refine lv_iconst (v := 1) hx hb dJx4a65c_add_9ea2d_23 (by decide) ?_
  exact W.zret (v := 1) (ty := .boolean) hx hb hr rfl (fun t9 ht9 hW9 => ⟨⟨1, (), rfl, rfl, ⟨a7, k8, ⟨pq_mk (wc := [(h0, .inr (0, [.int 1, .ref a7, .int 1])), (h1, .inr (7, [.int 105, .int 120, .int 0, .int (-1), .int 0, .int (-1)])), (a7, .inl (k8, 10, .inr (.inr (.inr (.inr (va_up (fun _ => none) 0 (some h1)))))))]) (tc := [(k8, .object "java/lang/Object")]) hP hD hK [0, 1, 2] [0] rfl rfl rfl rfl ht9 hW9, by rw [ht9]; exact Nat.le_trans (Nat.add_le_add_left (Nat.le_of_ble_eq_true rfl) _) hG⟩⟩⟩, hS.F ht9⟩) hS.2.2 dJx4a65c_add_9ea2d_24

set_option maxHeartbeats 4000000 in
set_option maxRecDepth 100000 in
theorem k57_add (l : Launch) (hl9 : l.stackTraces = false) (dC : Nat → ClassId) (dI : Nat → Nat → Nat) (z : XZ) (h0 h1 : Nat) (o0 o1 o2 : Nat) (sz : Nat) : Met l yX9_add (.code yX9_add cX9_add 2 (some .int) :: wsL_law) ({ frames := 5, cells := 2, slots := 16, locals := 109 }) (va_Pc [.ref h0, .int 105] (PC (dC, dI) [(h0, .inr (8, [.int 0, .ref h1, .ref o0, .ref o1, .ref o2, .int 0])), (h1, .inr (0, [.int 0, .ref z.1, .int 0]))] [] sz z)) (va_Qi (fun (r : Int32) (_ : Unit) => r = 0) (fun (_ : Unit) (t : State) => ∃ (n0 n1 : Nat), ∃ (m0 : ClassId), PG (dC, dI) [(h0, .inr (8, [.int 0, .ref h1, .ref o0, .ref o1, .ref o2, .int 0])), (h1, .inr (0, [.int 1, .ref n0, .int 1])), (n0, .inl (m0, 10, .inr (.inr (.inr (.inr (va_up (fun _ => none) 0 (some n1))))))), (n1, .inr (7, [.int 105, .int 120, .int 0, .int (-1), .int 0, .int (-1)]))] [(m0, .object "java/lang/Object")] (va_A [(h0, .inr (8, [.int 0, .ref h1, .ref o0, .ref o1, .ref o2, .int 0])), (h1, .inr (0, [.int 0, .ref z.1, .int 0]))] sz) sz 2 t) (va_A [(h0, .inr (8, [.int 0, .ref h1, .ref o0, .ref o1, .ref o2, .int 0])), (h1, .inr (0, [.int 0, .ref z.1, .int 0]))] sz)) 2 16 (va_A [(h0, .inr (8, [.int 0, .ref h1, .ref o0, .ref o1, .ref o2, .int 0])), (h1, .inr (0, [.int 0, .ref z.1, .int 0]))] sz) := by
  refine Met.ofW (cc := cX9_add) (maxL := 2) (ret := (some .int)) (by decide) rfl ?_
  intro p e s m args below meth c s₁ B hml hv
  obtain ⟨rfl, hsz, hP, hK, hD0, hX, hT⟩ := hv
  have hx := B.exec
  have hb := B.bytes
  have hr := B.returns
  have hts0 := atoms_spec (ws := .code yX9_add cX9_add 2 (some .int) :: wsL_law) B.pre
  have hts := xTail hts0
  have hown : s.vm.findClass RX9 = some m.cls := findClass_of_methodNamed B.named
  have hlocks := B.notSynchronized
  subst hsz
  have hD := hD0.self (sz := s.heap.size)
  generalize hAe : va_A [(h0, .inr (8, [.int 0, .ref h1, .ref o0, .ref o1, .ref o2, .int 0])), (h1, .inr (0, [.int 0, .ref z.1, .int 0]))] s.heap.size = A at hD hX ⊢
  have hA : ∀ q : Nat, s.heap.size ≤ q → A q := fun q h => by rw [← hAe]; exact Or.inr h
  have hS : va_S A s.heap s.heap [] := va_S.rf
  have hG : s.heap.size + 0 ≤ s.heap.size := Nat.le_refl _
  have hl := lv_entry ([.ref h0, .int 105]) (n := 2) (Nat.le_of_ble_eq_true rfl)
  rw [lg_entry_eq]
  generalize (lg_sl ([.ref h0, .int 105]) ++ List.replicate (2 - (lg_sl ([.ref h0, .int 105])).length) Slot.unset).toArray = ls at hl ⊢
  have hl : lv_has ls 2 [(0, .ref h0), (1, .int 105)] := hl
  refine lv_aload_n hx hb dX9_add_0 rfl (lv_at hl 0 rfl) ?_
  refine va_get (D := (dC, dI)) (ci := 8) (v := .ref h1) (C := RX9) (T := TX9) (N := 6) hx hb hts in_X9 hown hK hP 0 rfl rfl 1 (by decide) (hts _ q_64) (fun _ h9 => h9) rfl dX9_add_1 ?_
  refine xa_new (ci := 7) (fs := [.int 0, .int 0, .int 0, .int 0, .int 0, .int 0]) (C := RX8) (T := TX8) (N := 6) hx hb hts in_X8 tyX8 tyX8_ok hown (hts _ q_273) (hts _ q_274) (hts _ q_275) hK hP hD hS hA rfl nf_X8 (Nat.le_of_ble_eq_true rfl) (Nat.le_of_ble_eq_true rfl) dX9_add_4 (fun a1 H2 hg8 hP hD hS => ?_)
  have hG : s.heap.size + 1 ≤ H2.size := by rw [hg8]; exact Nat.succ_le_succ hG
  have hP : va_P (dC, dI) xCl [(h0, .inr (8, [.int 0, .ref h1, .ref o0, .ref o1, .ref o2, .int 0])), (h1, .inr (0, [.int 0, .ref z.1, .int 0])), (a1, .inr (7, [.int 0, .int 0, .int 0, .int 0, .int 0, .int 0]))] H2 := hP
  have hD : va_D A [(h0, .inr (8, [.int 0, .ref h1, .ref o0, .ref o1, .ref o2, .int 0])), (h1, .inr (0, [.int 0, .ref z.1, .int 0])), (a1, .inr (7, [.int 0, .int 0, .int 0, .int 0, .int 0, .int 0]))] := hD
  refine W.widen (k := 1) (n := 6) (by decide) (by decide) ?_
  refine lv_dup hx hb dX9_add_7 rfl ?_
  refine lv_iload_n hx hb dX9_add_8 rfl (lv_at hl 1 rfl) ?_
  have hF3 := va_free (wc := [(a1, .inr (7, [.int 0, .int 0, .int 0, .int 0, .int 0, .int 0]))]) hD hS hA [2] rfl
  refine va_callv (va_runI (As := [.int 105]) (rest := [.ref a1, .ref h1]) ⟨hx, hb, hml, hown, hts⟩ (k54_init l hl9 dC dI z a1 H2.size) (cwI 1 hts (gIL q_281) rfl rfl rfl (hts _ q_275) (hts _ q_282) (hts _ q_283) rfl (by decide +kernel) ⟨Nat.le_of_ble_eq_true rfl, Nat.le_of_ble_eq_true rfl⟩) ⟨pc_blind, fun U hU hW => ⟨rfl, pc_mk hP hD hK hS hX hT [2] [] rfl rfl rfl rfl hF3 hU hW⟩⟩ rfl rfl hl.1 rfl (lv_room (Nat.le_of_ble_eq_true rfl)) dX9_add_9 ⟨(Nat.le_of_ble_eq_true rfl), (Nat.le_of_ble_eq_true rfl)⟩) hS (fun q9 _ h9 => hF3 q9 h9) hF3 (fun u5 t5 H5 L5 ht5 hvm5 hw5 hB5 hz5 hk5 hS => ?_)
  obtain ⟨hP, hD, hK⟩ := pq_join (wr := [(h0, .inr (8, [.int 0, .ref h1, .ref o0, .ref o1, .ref o2, .int 0])), (h1, .inr (0, [.int 0, .ref z.1, .int 0]))]) (tr := []) (wz := [(h0, .inr (8, [.int 0, .ref h1, .ref o0, .ref o1, .ref o2, .int 0])), (h1, .inr (0, [.int 0, .ref z.1, .int 0])), (a1, .inr (7, [.int 105, .int 120, .int 0, .int (-1), .int 0, .int (-1)]))]) (tz := []) hP hD hK [2] [0, 1] [] rfl rfl (by decide) (by decide) rfl hk5 hF3 hB5.1 ht5 hvm5 rfl rfl
  have hG : s.heap.size + 1 ≤ H5.size := Nat.le_trans hG hz5
  have hF7 := va_free (wc := [(h1, .inr (0, [.int 0, .ref z.1, .int 0])), (a1, .inr (7, [.int 105, .int 120, .int 0, .int (-1), .int 0, .int (-1)]))]) hD hS hA [1, 2] rfl
  refine va_calli (va_runV (As := [.ref a1]) (rest := []) ⟨hx, hb, hml, hown, hts⟩ (k56_add l hl9 dC dI z h1 a1 H5.size) (cwV 1 hts (gV q_284 q_128 q_129 q_12 q_126) rfl rfl rfl (by decide +kernel) ⟨Nat.le_of_ble_eq_true rfl, Nat.le_of_ble_eq_true rfl⟩) ⟨pc_blind, va_recv hK hP (ci := 0) (q0 := 1) rfl rfl, fun U hU hW => ⟨rfl, pc_mk hP hD hK hS hX hT [1, 2] [] rfl rfl rfl rfl hF7 hU hW⟩⟩ rfl rfl hl.1 rfl (lv_room (Nat.le_of_ble_eq_true rfl)) dX9_add_12 ⟨(Nat.le_of_ble_eq_true rfl), (Nat.le_of_ble_eq_true rfl)⟩) hS (fun q9 _ h9 => hF7 q9 h9) hF7 (fun r10 u9 t9 H9 L9 ht9 hvm9 hw9 hB9 hz9 hk9 hS => ?_)
  obtain ⟨a11, k12, hB9⟩ := hB9
  obtain ⟨hP, hD, hK⟩ := pq_join (wr := [(h0, .inr (8, [.int 0, .ref h1, .ref o0, .ref o1, .ref o2, .int 0]))]) (tr := []) (wz := [(h0, .inr (8, [.int 0, .ref h1, .ref o0, .ref o1, .ref o2, .int 0])), (h1, .inr (0, [.int 1, .ref a11, .int 1])), (a1, .inr (7, [.int 105, .int 120, .int 0, .int (-1), .int 0, .int (-1)])), (a11, .inl (k12, 10, .inr (.inr (.inr (.inr (va_up (fun _ => none) 0 (some a1)))))))]) (tz := [(k12, .object "java/lang/Object")]) hP hD hK [1, 2] [0] [] rfl rfl (by decide) (by decide) rfl hk9 hF7 hB9.1 ht9 hvm9 rfl rfl
  have hG : s.heap.size + 2 ≤ H9.size := va_gr (g := 1) (g1 := 1) hG (by rw [← ht9]; exact hB9.2)
  refine W.eq (g2 := F0 m 15 ls [.int 1]) (by rw [hw9]) ?_
  refine W.widen (k := 2) (n := 16) (by decide) (by decide) ?_
  refine lv_pop hx hb dX9_add_15 rfl ?_
  refine lv_aload_n hx hb dX9_add_16 rfl (lv_at hl 0 rfl) ?_
  refine va_get (D := (dC, dI)) (ci := 8) (v := .ref h1) (C := RX9) (T := TX9) (N := 6) hx hb hts in_X9 hown hK hP 0 rfl rfl 1 (by decide) (hts _ q_64) (fun _ h9 => h9) rfl dX9_add_17 ?_
  have hF13 := va_free (wc := [(h1, .inr (0, [.int 1, .ref a11, .int 1]))]) hD hS hA [1] rfl
  refine va_calli (va_runV (As := []) (rest := []) ⟨hx, hb, hml, hown, hts⟩ (k20_size l hl9 dC dI z h1 a11 H9.size 1 1) (cwV 0 hts (gV q_272 q_77 q_78 q_12 q_75) rfl rfl rfl (by decide +kernel) ⟨Nat.le_of_ble_eq_true rfl, Nat.le_of_ble_eq_true rfl⟩) ⟨pc_blind, va_recv hK hP (ci := 0) (q0 := 1) rfl rfl, fun U hU hW => ⟨rfl, pc_mk hP hD hK hS hX hT [1] [] rfl rfl rfl rfl hF13 hU hW⟩⟩ rfl rfl hl.1 rfl (lv_room (Nat.le_of_ble_eq_true rfl)) dX9_add_20 ⟨(Nat.le_of_ble_eq_true rfl), (Nat.le_of_ble_eq_true rfl)⟩) hS (fun q9 _ h9 => hF13 q9 h9) hF13 (fun r16 u15 t15 H15 L15 ht15 hvm15 hw15 hB15 hz15 hk15 hS => ?_)
  obtain ⟨hP, hD, hK⟩ := pq_join (wr := [(h0, .inr (8, [.int 0, .ref h1, .ref o0, .ref o1, .ref o2, .int 0])), (a1, .inr (7, [.int 105, .int 120, .int 0, .int (-1), .int 0, .int (-1)])), (a11, .inl (k12, 10, .inr (.inr (.inr (.inr (va_up (fun _ => none) 0 (some a1)))))))]) (tr := [(k12, .object "java/lang/Object")]) (wz := [(h0, .inr (8, [.int 0, .ref h1, .ref o0, .ref o1, .ref o2, .int 0])), (a1, .inr (7, [.int 105, .int 120, .int 0, .int (-1), .int 0, .int (-1)])), (a11, .inl (k12, 10, .inr (.inr (.inr (.inr (va_up (fun _ => none) 0 (some a1))))))), (h1, .inr (0, [.int 1, .ref a11, .int 1]))]) (tz := [(k12, .object "java/lang/Object")]) hP hD hK [1] [0, 2, 3] [0] rfl rfl (by decide) (by decide) rfl hk15 hF13 hB15.1 ht15 hvm15 rfl rfl
  have hG : s.heap.size + 2 ≤ H15.size := Nat.le_trans hG hz15
  refine W.eq (g2 := F0 m 23 ls [.int 1]) (by rw [hw15]) ?_
  refine lv_iconst (v := 1) hx hb dX9_add_23 (by decide) ?_
  refine lv_isub hx hb dX9_add_24 ?_
  refine lv_topi (fun y17 ey17 => ?_)
  obtain rfl : y17 = 0 := ey17.trans (by decide)
  exact W.iret (v := 0) hx hb hr (fun t9 ht9 hW9 => ⟨⟨0, (), rfl, rfl, ⟨a11, a1, k12, ⟨pq_mk (wc := [(h0, .inr (8, [.int 0, .ref h1, .ref o0, .ref o1, .ref o2, .int 0])), (h1, .inr (0, [.int 1, .ref a11, .int 1])), (a11, .inl (k12, 10, .inr (.inr (.inr (.inr (va_up (fun _ => none) 0 (some a1))))))), (a1, .inr (7, [.int 105, .int 120, .int 0, .int (-1), .int 0, .int (-1)]))]) (tc := [(k12, .object "java/lang/Object")]) hP hD hK [0, 3, 2, 1] [0] rfl rfl rfl rfl ht9 hW9, by rw [ht9]; exact Nat.le_trans (Nat.add_le_add_left (Nat.le_of_ble_eq_true rfl) _) hG⟩⟩⟩, hS.F ht9⟩) hS.2.2 dX9_add_25

set_option maxHeartbeats 4000000 in
set_option maxRecDepth 100000 in
theorem k58_valueOf (l : Launch) (hl9 : l.stackTraces = false) (dC : Nat → ClassId) (dI : Nat → Nat → Nat) (z : XZ) (sz : Nat) : Met l yJ6_valueOf_2dffe (.code yJ6_valueOf_2dffe cJ6_valueOf_2dffe 1 (some (.object "java/lang/Integer")) :: wsL_law) ({ frames := 0, cells := 0, slots := 0, locals := 0 }) (va_Pc [.int 0] (PC (dC, dI) [] [] sz z)) (va_Qr (fun (_ : Unit) => True) (fun (_ : Unit) (ra : Nat) (t : State) => ra = (z.2.2.1 128) ∧ PG (dC, dI) [] [] (va_A [] sz) sz 0 t) (va_A [] sz)) 0 0 (va_A [] sz) := by
  refine Met.ofW (cc := cJ6_valueOf_2dffe) (maxL := 1) (ret := (some (.object "java/lang/Integer"))) (by decide) rfl ?_
  intro p e s m args below meth c s₁ B hml hv
  obtain ⟨rfl, hsz, hP, hK, hD0, hX, hT⟩ := hv
  have hx := B.exec
  have hb := B.bytes
  have hr := B.returns
  have hts0 := atoms_spec (ws := .code yJ6_valueOf_2dffe cJ6_valueOf_2dffe 1 (some (.object "java/lang/Integer")) :: wsL_law) B.pre
  have hts := xTail hts0
  have hown : s.vm.findClass RJ6 = some m.cls := findClass_of_methodNamed B.named
  have hlocks := B.notSynchronized
  subst hsz
  have hD := hD0.self (sz := s.heap.size)
  generalize hAe : va_A [] s.heap.size = A at hD hX ⊢
  have hA : ∀ q : Nat, s.heap.size ≤ q → A q := fun q h => by rw [← hAe]; exact Or.inr h
  have hS : va_S A s.heap s.heap [] := va_S.rf
  have hG : s.heap.size + 0 ≤ s.heap.size := Nat.le_refl _
  have hl := lv_entry ([.int 0]) (n := 1) (Nat.le_of_ble_eq_true rfl)
  rw [lg_entry_eq]
  generalize (lg_sl ([.int 0]) ++ List.replicate (1 - (lg_sl ([.int 0])).length) Slot.unset).toArray = ls at hl ⊢
  have hl : lv_has ls 1 [(0, .int 0)] := hl
  refine lv_iload_n hx hb dJ6_valueOf_2dffe_0 rfl (lv_at hl 0 rfl) ?_
  refine lv_bipush (v := (-128)) hx hb dJ6_valueOf_2dffe_1 (by decide) ?_
  refine lv_icmp_lt (tgt := 23) hx hb dJ6_valueOf_2dffe_3 (by decide) (fun cz => absurd cz (by decide)) (fun _ => ?_)
  refine lv_iload_n hx hb dJ6_valueOf_2dffe_6 rfl (lv_at hl 0 rfl) ?_
  refine va_gets (own := RJ6) (ref := "java/lang/Integer$IntegerCache") hx hb hX.2.2.1.2.1 hS hown (hts _ q_292) (fun _ h9 => h9) dJ6_valueOf_2dffe_7 ?_
  refine lv_icmp_gt (tgt := 23) hx hb dJ6_valueOf_2dffe_10 (by decide) (fun cz => absurd cz (by decide)) (fun _ => ?_)
  refine va_gets (own := RJ6) (ref := "java/lang/Integer$IntegerCache") hx hb hX.2.2.1.2.2.1 hS hown (hts _ q_293) (fun _ h9 => h9) dJ6_valueOf_2dffe_13 ?_
  refine lv_iload_n hx hb dJ6_valueOf_2dffe_16 rfl (lv_at hl 0 rfl) ?_
  refine lv_sipush (v := 128) hx hb dJ6_valueOf_2dffe_17 (by decide) ?_
  refine lv_iadd hx hb dJ6_valueOf_2dffe_20 ?_
  refine lv_topi (fun y1 ey1 => ?_)
  obtain rfl : y1 = 128 := ey1.trans (by decide)
  refine vb_tq hx hb hX.2.2.1.2.2.2 hS (i := 128) (by unfold vp_in; decide) (v := .ref (z.2.2.1 128)) rfl dJ6_valueOf_2dffe_21 ?_
  exact W.aret (v := .ref (z.2.2.1 128)) hx hb hr (by first | exact Or.inl ⟨_, rfl⟩ | exact Or.inr ⟨_, rfl⟩) (Or.inr ⟨_, rfl⟩) (fun t9 ht9 hW9 => ⟨⟨(), (z.2.2.1 128), rfl, trivial, ⟨rfl, ⟨pq_mk (wc := []) (tc := []) hP hD hK [] [] rfl rfl rfl rfl ht9 hW9, by rw [ht9]; exact Nat.le_trans (Nat.add_le_add_left (Nat.le_of_ble_eq_true rfl) _) hG⟩⟩⟩, hS.F ht9⟩) hS.2.2 dJ6_valueOf_2dffe_22

set_option maxHeartbeats 4000000 in
set_option maxRecDepth 100000 in
theorem k59_add (l : Launch) (hl9 : l.stackTraces = false) (dC : Nat → ClassId) (dI : Nat → Nat → Nat) (z : XZ) (h0 : Nat) (sz : Nat) : Met l yJx4a65c_add_72be8 (.code yJx4a65c_add_72be8 cJx4a65c_add_72be8 4 none :: wsL_law) ({ frames := 3, cells := 1, slots := 10, locals := 65 }) (va_Pc [.ref h0, .ref (z.2.2.1 128), .ref z.1, .int 0] (PC (dC, dI) [(h0, .inr (0, [.int 2, .ref z.1, .int 0]))] [] sz z)) (va_Qv (fun (_ : Unit) => True) (fun (_ : Unit) (t : State) => ∃ (n0 : Nat), ∃ (m0 : ClassId), PG (dC, dI) [(h0, .inr (0, [.int 2, .ref n0, .int 1])), (n0, .inl (m0, 10, .inr (.inr (.inr (.inr (va_up (fun _ => none) 0 (some (z.2.2.1 128))))))))] [(m0, .object "java/lang/Object")] (va_A [(h0, .inr (0, [.int 2, .ref z.1, .int 0]))] sz) sz 1 t) (va_A [(h0, .inr (0, [.int 2, .ref z.1, .int 0]))] sz)) 1 10 (va_A [(h0, .inr (0, [.int 2, .ref z.1, .int 0]))] sz) := by
  refine Met.ofW (cc := cJx4a65c_add_72be8) (maxL := 4) (ret := none) (by decide) rfl ?_
  intro p e s m args below meth c s₁ B hml hv
  obtain ⟨rfl, hsz, hP, hK, hD0, hX, hT⟩ := hv
  have hx := B.exec
  have hb := B.bytes
  have hr := B.returns
  have hts0 := atoms_spec (ws := .code yJx4a65c_add_72be8 cJx4a65c_add_72be8 4 none :: wsL_law) B.pre
  have hts := xTail hts0
  have hown : s.vm.findClass RJx4a65c = some m.cls := findClass_of_methodNamed B.named
  have hlocks := B.notSynchronized
  subst hsz
  have hD := hD0.self (sz := s.heap.size)
  generalize hAe : va_A [(h0, .inr (0, [.int 2, .ref z.1, .int 0]))] s.heap.size = A at hD hX ⊢
  have hA : ∀ q : Nat, s.heap.size ≤ q → A q := fun q h => by rw [← hAe]; exact Or.inr h
  have hS : va_S A s.heap s.heap [] := va_S.rf
  have hG : s.heap.size + 0 ≤ s.heap.size := Nat.le_refl _
  have hl := lv_entry ([.ref h0, .ref (z.2.2.1 128), .ref z.1, .int 0]) (n := 4) (Nat.le_of_ble_eq_true rfl)
  rw [lg_entry_eq]
  generalize (lg_sl ([.ref h0, .ref (z.2.2.1 128), .ref z.1, .int 0]) ++ List.replicate (4 - (lg_sl ([.ref h0, .ref (z.2.2.1 128), .ref z.1, .int 0])).length) Slot.unset).toArray = ls at hl ⊢
  have hl : lv_has ls 4 [(0, .ref h0), (1, .ref (z.2.2.1 128)), (2, .ref z.1), (3, .int 0)] := hl
  refine lv_iload_n hx hb dJx4a65c_add_72be8_0 rfl (lv_at hl 3 rfl) ?_
  refine lv_aload_n hx hb dJx4a65c_add_72be8_1 rfl (lv_at hl 2 rfl) ?_
  refine va_tlen hx hb hX.1.2 hS (v := 0) rfl dJx4a65c_add_72be8_2 ?_
  refine lv_icmp_ne (tgt := 11) hx hb dJx4a65c_add_72be8_3 (by decide) (fun cz => absurd (by decide) cz) (fun _ => ?_)
  refine lv_aload_n hx hb dJx4a65c_add_72be8_6 rfl (lv_at hl 0 rfl) ?_
  have hF1 := va_free (wc := [(h0, .inr (0, [.int 2, .ref z.1, .int 0]))]) hD hS hA [0] rfl
  refine va_callr (va_runV (As := []) (rest := []) ⟨hx, hb, hml, hown, hts⟩ (k27_grow l hl9 dC dI z h0 s.heap.size) (cwV 0 hts (gV q_119 q_120 q_121 q_12 q_118) rfl rfl rfl (by decide +kernel) ⟨Nat.le_of_ble_eq_true rfl, Nat.le_of_ble_eq_true rfl⟩) ⟨pc_blind, va_recv hK hP (ci := 0) (q0 := 0) rfl rfl, fun U hU hW => ⟨rfl, pc_mk hP hD hK hS hX hT [0] [] rfl rfl rfl rfl hF1 hU hW⟩⟩ rfl rfl hl.1 rfl (lv_room (Nat.le_of_ble_eq_true rfl)) dJx4a65c_add_72be8_7 ⟨(Nat.le_of_ble_eq_true rfl), (Nat.le_of_ble_eq_true rfl)⟩) hS (fun q9 _ h9 => hF1 q9 h9) hF1 (fun u3 r4 t3 H3 L3 ht3 hvm3 hw3 hB3 hz3 hk3 hS => ?_)
  obtain ⟨a5, k6, hr3, hB3⟩ := hB3
  obtain ⟨hP, hD, hK⟩ := pq_join (wr := []) (tr := []) (wz := [(h0, .inr (0, [.int 2, .ref a5, .int 0])), (a5, .inl (k6, 10, .inr (.inr (.inr (.inr (fun _ => none))))))]) (tz := [(k6, .object "java/lang/Object")]) hP hD hK [0] [] [] rfl rfl (by decide) (by decide) rfl hk3 hF1 hB3.1 ht3 hvm3 rfl rfl
  have hG : s.heap.size + 1 ≤ H3.size := va_gr (g := 0) (g1 := 1) hG (by rw [← ht3]; exact hB3.2)
  refine W.eq (g2 := F0 m 10 ls [.ref a5]) (by rw [hr3]) ?_
  refine W.widen (k := 1) (n := 10) (by decide) (by decide) ?_
  refine lv_astore_n (lv' := [(2, .ref a5), (0, .ref h0), (1, .ref (z.2.2.1 128)), (3, .int 0)]) hx hb dJx4a65c_add_72be8_10 rfl hl (by decide) rfl (fun ls hl => ?_)
  refine lv_aload_n hx hb dJx4a65c_add_72be8_11 rfl (lv_at hl 0 rfl) ?_
  refine lv_iload_n hx hb dJx4a65c_add_72be8_12 rfl (lv_at hl 3 rfl) ?_
  refine lv_aload_n hx hb dJx4a65c_add_72be8_13 rfl (lv_at hl 2 rfl) ?_
  refine vb_astq (E := "java/lang/Object") (C := "java/lang/Integer") hx hb hK hP hD (va_Sre hS) 1 0 rfl rfl (va_Orecv (hX.2.2.1.1.1 128 (by decide)) hS) (vb_asgC (hT.2.1.1 ("java/lang/Integer", "java/lang/Object") (by decide))) (i := 0) (by unfold vp_in; decide) dJx4a65c_add_72be8_14 (fun H7 _ hP hD hS' => ?_)
  have hG : s.heap.size + 1 ≤ H7.size := Nat.le_trans hG hS'.1
  have hS := va_Str hS hS'
  have hP : va_P (dC, dI) xCl [(h0, .inr (0, [.int 2, .ref a5, .int 0])), (a5, .inl (k6, 10, .inr (.inr (.inr (.inr (va_up (fun _ => none) 0 (some (z.2.2.1 128))))))))] H7 := hP
  have hD : va_D A [(h0, .inr (0, [.int 2, .ref a5, .int 0])), (a5, .inl (k6, 10, .inr (.inr (.inr (.inr (va_up (fun _ => none) 0 (some (z.2.2.1 128))))))))] := hD
  refine lv_aload_n hx hb dJx4a65c_add_72be8_15 rfl (lv_at hl 1 rfl) ?_
  refine lv_iload_n hx hb dJx4a65c_add_72be8_16 rfl (lv_at hl 3 rfl) ?_
  refine lv_iconst (v := 1) hx hb dJx4a65c_add_72be8_17 (by decide) ?_
  refine lv_iadd hx hb dJx4a65c_add_72be8_18 ?_
  refine lv_topi (fun y8 ey8 => ?_)
  obtain rfl : y8 = 1 := ey8.trans (by decide)
  refine va_put (D := (dC, dI)) (ci := 0) (v := .int 1) (ty := .int) (C := RJx4a65c) (T := TJx4a65c) (N := 3) hx hb hts in_Jx4a65c tyJx4a65c tyJx4a65c_ok nmJx4a65c hown hK hP hD (va_Sre hS) 0 rfl rfl 2 (by decide) (hts _ q_74) (fun _ h9 => h9) rfl (by decide +kernel) rfl rfl (Nat.le_of_ble_eq_true rfl) dJx4a65c_add_72be8_19 (fun H9 _ hP hD hS' => ?_)
  have hG : s.heap.size + 1 ≤ H9.size := Nat.le_trans hG hS'.1
  have hS := va_Str hS hS'
  have hP : va_P (dC, dI) xCl [(h0, .inr (0, [.int 2, .ref a5, .int 1])), (a5, .inl (k6, 10, .inr (.inr (.inr (.inr (va_up (fun _ => none) 0 (some (z.2.2.1 128))))))))] H9 := hP
  have hD : va_D A [(h0, .inr (0, [.int 2, .ref a5, .int 1])), (a5, .inl (k6, 10, .inr (.inr (.inr (.inr (va_up (fun _ => none) 0 (some (z.2.2.1 128))))))))] := hD
  exact W.vret hx hb hr (fun t9 ht9 hW9 => ⟨⟨(), rfl, trivial, ⟨a5, k6, ⟨pq_mk (wc := [(h0, .inr (0, [.int 2, .ref a5, .int 1])), (a5, .inl (k6, 10, .inr (.inr (.inr (.inr (va_up (fun _ => none) 0 (some (z.2.2.1 128))))))))]) (tc := [(k6, .object "java/lang/Object")]) hP hD hK [0, 1] [0] rfl rfl rfl rfl ht9 hW9, by rw [ht9]; exact Nat.le_trans (Nat.add_le_add_left (Nat.le_of_ble_eq_true rfl) _) hG⟩⟩⟩, hS.F ht9⟩) hS.2.2 dJx4a65c_add_72be8_22

set_option maxHeartbeats 4000000 in
set_option maxRecDepth 100000 in
theorem k60_add (l : Launch) (hl9 : l.stackTraces = false) (dC : Nat → ClassId) (dI : Nat → Nat → Nat) (z : XZ) (h0 : Nat) (sz : Nat) : Met l yJx4a65c_add_9ea2d (.code yJx4a65c_add_9ea2d cJx4a65c_add_9ea2d 2 (some .boolean) :: wsL_law) ({ frames := 4, cells := 1, slots := 10, locals := 88 }) (va_Pc [.ref h0, .ref (z.2.2.1 128)] (PC (dC, dI) [(h0, .inr (0, [.int 1, .ref z.1, .int 0]))] [] sz z)) (va_Qi (fun (r : Int32) (_ : Unit) => r = 1) (fun (_ : Unit) (t : State) => ∃ (n0 : Nat), ∃ (m0 : ClassId), PG (dC, dI) [(h0, .inr (0, [.int 2, .ref n0, .int 1])), (n0, .inl (m0, 10, .inr (.inr (.inr (.inr (va_up (fun _ => none) 0 (some (z.2.2.1 128))))))))] [(m0, .object "java/lang/Object")] (va_A [(h0, .inr (0, [.int 1, .ref z.1, .int 0]))] sz) sz 1 t) (va_A [(h0, .inr (0, [.int 1, .ref z.1, .int 0]))] sz)) 1 10 (va_A [(h0, .inr (0, [.int 1, .ref z.1, .int 0]))] sz) := by
  refine Met.ofW (cc := cJx4a65c_add_9ea2d) (maxL := 2) (ret := (some .boolean)) (by decide) rfl ?_
  intro p e s m args below meth c s₁ B hml hv
  obtain ⟨rfl, hsz, hP, hK, hD0, hX, hT⟩ := hv
  have hx := B.exec
  have hb := B.bytes
  have hr := B.returns
  have hts0 := atoms_spec (ws := .code yJx4a65c_add_9ea2d cJx4a65c_add_9ea2d 2 (some .boolean) :: wsL_law) B.pre
  have hts := xTail hts0
  have hown : s.vm.findClass RJx4a65c = some m.cls := findClass_of_methodNamed B.named
  have hlocks := B.notSynchronized
  subst hsz
  have hD := hD0.self (sz := s.heap.size)
  generalize hAe : va_A [(h0, .inr (0, [.int 1, .ref z.1, .int 0]))] s.heap.size = A at hD hX ⊢
  have hA : ∀ q : Nat, s.heap.size ≤ q → A q := fun q h => by rw [← hAe]; exact Or.inr h
  have hS : va_S A s.heap s.heap [] := va_S.rf
  have hG : s.heap.size + 0 ≤ s.heap.size := Nat.le_refl _
  have hl := lv_entry ([.ref h0, .ref (z.2.2.1 128)]) (n := 2) (Nat.le_of_ble_eq_true rfl)
  rw [lg_entry_eq]
  generalize (lg_sl ([.ref h0, .ref (z.2.2.1 128)]) ++ List.replicate (2 - (lg_sl ([.ref h0, .ref (z.2.2.1 128)])).length) Slot.unset).toArray = ls at hl ⊢
  have hl : lv_has ls 2 [(0, .ref h0), (1, .ref (z.2.2.1 128))] := hl
  refine lv_aload_n hx hb dJx4a65c_add_9ea2d_0 rfl (lv_at hl 0 rfl) ?_
  refine lv_dup hx hb dJx4a65c_add_9ea2d_1 rfl ?_
  refine va_get (D := (dC, dI)) (ci := 0) (v := .int 1) (C := RJx4a65c) (T := TJx4a65c) (N := 3) hx hb hts in_Jx4a65c hown hK hP 0 rfl rfl 0 (by decide) (hts _ q_108) (u_same (hts _ q_107)) rfl dJx4a65c_add_9ea2d_2 ?_
  refine lv_iconst (v := 1) hx hb dJx4a65c_add_9ea2d_5 (by decide) ?_
  refine lv_iadd hx hb dJx4a65c_add_9ea2d_6 ?_
  refine lv_topi (fun y1 ey1 => ?_)
  obtain rfl : y1 = 2 := ey1.trans (by decide)
  refine va_put (D := (dC, dI)) (ci := 0) (v := .int 2) (ty := .int) (C := RJx4a65c) (T := TJx4a65c) (N := 3) hx hb hts in_Jx4a65c tyJx4a65c tyJx4a65c_ok nmJx4a65c hown hK hP hD (va_Sre hS) 0 rfl rfl 0 (by decide) (hts _ q_108) (u_same (hts _ q_107)) rfl (by decide +kernel) rfl rfl (Nat.le_of_ble_eq_true rfl) dJx4a65c_add_9ea2d_7 (fun H2 _ hP hD hS' => ?_)
  have hG : s.heap.size + 0 ≤ H2.size := Nat.le_trans hG hS'.1
  have hS := va_Str hS hS'
  have hP : va_P (dC, dI) xCl [(h0, .inr (0, [.int 2, .ref z.1, .int 0]))] H2 := hP
  have hD : va_D A [(h0, .inr (0, [.int 2, .ref z.1, .int 0]))] := hD
  refine lv_aload_n hx hb dJx4a65c_add_9ea2d_10 rfl (lv_at hl 0 rfl) ?_
  refine lv_aload_n hx hb dJx4a65c_add_9ea2d_11 rfl (lv_at hl 1 rfl) ?_
  refine lv_aload_n hx hb dJx4a65c_add_9ea2d_12 rfl (lv_at hl 0 rfl) ?_
  refine va_get (D := (dC, dI)) (ci := 0) (v := .ref z.1) (C := RJx4a65c) (T := TJx4a65c) (N := 3) hx hb hts in_Jx4a65c hown hK hP 0 rfl rfl 1 (by decide) (hts _ q_24) (fun _ h9 => h9) rfl dJx4a65c_add_9ea2d_13 ?_
  refine lv_aload_n hx hb dJx4a65c_add_9ea2d_16 rfl (lv_at hl 0 rfl) ?_
  refine va_get (D := (dC, dI)) (ci := 0) (v := .int 0) (C := RJx4a65c) (T := TJx4a65c) (N := 3) hx hb hts in_Jx4a65c hown hK hP 0 rfl rfl 2 (by decide) (hts _ q_74) (fun _ h9 => h9) rfl dJx4a65c_add_9ea2d_17 ?_
  have hF3 := va_free (wc := [(h0, .inr (0, [.int 2, .ref z.1, .int 0]))]) hD hS hA [0] rfl
  refine va_callv (va_runV (As := [.ref (z.2.2.1 128), .ref z.1, .int 0]) (rest := []) ⟨hx, hb, hml, hown, hts⟩ (k59_add l hl9 dC dI z h0 H2.size) (cwV 3 hts (gV q_123 q_124 q_125 q_12 q_122) rfl rfl rfl (by decide +kernel) ⟨Nat.le_of_ble_eq_true rfl, Nat.le_of_ble_eq_true rfl⟩) ⟨pc_blind, va_recv hK hP (ci := 0) (q0 := 0) rfl rfl, fun U hU hW => ⟨rfl, pc_mk hP hD hK hS hX hT [0] [] rfl rfl rfl rfl hF3 hU hW⟩⟩ rfl rfl hl.1 rfl (lv_room (Nat.le_of_ble_eq_true rfl)) dJx4a65c_add_9ea2d_20 ⟨(Nat.le_of_ble_eq_true rfl), (Nat.le_of_ble_eq_true rfl)⟩) hS (fun q9 _ h9 => hF3 q9 h9) hF3 (fun u5 t5 H5 L5 ht5 hvm5 hw5 hB5 hz5 hk5 hS => ?_)
  obtain ⟨a7, k8, hB5⟩ := hB5
  obtain ⟨hP, hD, hK⟩ := pq_join (wr := []) (tr := []) (wz := [(h0, .inr (0, [.int 2, .ref a7, .int 1])), (a7, .inl (k8, 10, .inr (.inr (.inr (.inr (va_up (fun _ => none) 0 (some (z.2.2.1 128))))))))]) (tz := [(k8, .object "java/lang/Object")]) hP hD hK [0] [] [] rfl rfl (by decide) (by decide) rfl hk5 hF3 hB5.1 ht5 hvm5 rfl rfl
  have hG : s.heap.size + 1 ≤ H5.size := va_gr (g := 0) (g1 := 1) hG (by rw [← ht5]; exact hB5.2)
  refine W.widen (k := 1) (n := 10) (by decide) (by decide) ?_
  refine lv_iconst (v := 1) hx hb dJx4a65c_add_9ea2d_23 (by decide) ?_
  exact W.zret (v := 1) (ty := .boolean) hx hb hr rfl (fun t9 ht9 hW9 => ⟨⟨1, (), rfl, rfl, ⟨a7, k8, ⟨pq_mk (wc := [(h0, .inr (0, [.int 2, .ref a7, .int 1])), (a7, .inl (k8, 10, .inr (.inr (.inr (.inr (va_up (fun _ => none) 0 (some (z.2.2.1 128))))))))]) (tc := [(k8, .object "java/lang/Object")]) hP hD hK [0, 1] [0] rfl rfl rfl rfl ht9 hW9, by rw [ht9]; exact Nat.le_trans (Nat.add_le_add_left (Nat.le_of_ble_eq_true rfl) _) hG⟩⟩⟩, hS.F ht9⟩) hS.2.2 dJx4a65c_add_9ea2d_24

set_option maxHeartbeats 4000000 in
set_option maxRecDepth 100000 in
theorem k61_putInOrder (l : Launch) (hl9 : l.stackTraces = false) (dC : Nat → ClassId) (dI : Nat → Nat → Nat) (z : XZ) (h0 h1 h2 h3 : Nat) (o0 o1 : Nat) (sz : Nat) : Met l yX9_putInOrder (.code yX9_putInOrder cX9_putInOrder 6 none :: wsL_law) ({ frames := 5, cells := 3, slots := 54, locals := 109 }) (va_Pc [.ref h0] (PC (dC, dI) [(h0, .inr (8, [.int 0, .ref h1, .ref h2, .ref o0, .ref h3, .int 0])), (h1, .inr (0, [.int 1, .ref o1, .int 1])), (h2, .inr (0, [.int 0, .ref z.1, .int 0])), (h3, .inr (0, [.int 0, .ref z.1, .int 0]))] [] sz z)) (va_Qv (fun (_ : Unit) => True) (fun (_ : Unit) (t : State) => ∃ (n0 : Nat), ∃ (m0 : ClassId), PG (dC, dI) [(h0, .inr (8, [.int 0, .ref h1, .ref h2, .ref o0, .ref h3, .int 0])), (h1, .inr (0, [.int 1, .ref o1, .int 1])), (h2, .inr (0, [.int 0, .ref z.1, .int 0])), (h3, .inr (0, [.int 2, .ref n0, .int 1])), (n0, .inl (m0, 10, .inr (.inr (.inr (.inr (va_up (fun _ => none) 0 (some (z.2.2.1 128))))))))] [(m0, .object "java/lang/Object")] (va_A [(h0, .inr (8, [.int 0, .ref h1, .ref h2, .ref o0, .ref h3, .int 0])), (h1, .inr (0, [.int 1, .ref o1, .int 1])), (h2, .inr (0, [.int 0, .ref z.1, .int 0])), (h3, .inr (0, [.int 0, .ref z.1, .int 0]))] sz) sz 3 t) (va_A [(h0, .inr (8, [.int 0, .ref h1, .ref h2, .ref o0, .ref h3, .int 0])), (h1, .inr (0, [.int 1, .ref o1, .int 1])), (h2, .inr (0, [.int 0, .ref z.1, .int 0])), (h3, .inr (0, [.int 0, .ref z.1, .int 0]))] sz)) 3 54 (va_A [(h0, .inr (8, [.int 0, .ref h1, .ref h2, .ref o0, .ref h3, .int 0])), (h1, .inr (0, [.int 1, .ref o1, .int 1])), (h2, .inr (0, [.int 0, .ref z.1, .int 0])), (h3, .inr (0, [.int 0, .ref z.1, .int 0]))] sz) := by
  refine Met.ofW (cc := cX9_putInOrder) (maxL := 6) (ret := none) (by decide) rfl ?_
  intro p e s m args below meth c s₁ B hml hv
  obtain ⟨rfl, hsz, hP, hK, hD0, hX, hT⟩ := hv
  have hx := B.exec
  have hb := B.bytes
  have hr := B.returns
  have hts0 := atoms_spec (ws := .code yX9_putInOrder cX9_putInOrder 6 none :: wsL_law) B.pre
  have hts := xTail hts0
  have hown : s.vm.findClass RX9 = some m.cls := findClass_of_methodNamed B.named
  have hlocks := B.notSynchronized
  subst hsz
  have hD := hD0.self (sz := s.heap.size)
  generalize hAe : va_A [(h0, .inr (8, [.int 0, .ref h1, .ref h2, .ref o0, .ref h3, .int 0])), (h1, .inr (0, [.int 1, .ref o1, .int 1])), (h2, .inr (0, [.int 0, .ref z.1, .int 0])), (h3, .inr (0, [.int 0, .ref z.1, .int 0]))] s.heap.size = A at hD hX ⊢
  have hA : ∀ q : Nat, s.heap.size ≤ q → A q := fun q h => by rw [← hAe]; exact Or.inr h
  have hS : va_S A s.heap s.heap [] := va_S.rf
  have hG : s.heap.size + 0 ≤ s.heap.size := Nat.le_refl _
  have hl := lv_entry ([.ref h0]) (n := 6) (Nat.le_of_ble_eq_true rfl)
  rw [lg_entry_eq]
  generalize (lg_sl ([.ref h0]) ++ List.replicate (6 - (lg_sl ([.ref h0])).length) Slot.unset).toArray = ls at hl ⊢
  have hl : lv_has ls 6 [(0, .ref h0)] := hl
  refine lv_bipush (v := 40) hx hb dX9_putInOrder_0 (by decide) ?_
  refine xa_newa (atype := .boolean) hx hb (hts _ q_290) rfl hK hP hD hS hA (n := 40) (N' := 40) (a0 := (40, .inl (fun _ => 0))) (fun _ => rfl) (by decide) (by decide) (Nat.le_of_ble_eq_true rfl) (Nat.le_of_ble_eq_true rfl) (Nat.le_of_ble_eq_true rfl) dX9_putInOrder_2 (fun a1 k2 H3 hg8 hK hP hD hS => ?_)
  have hG : s.heap.size + 1 ≤ H3.size := by rw [hg8]; exact Nat.succ_le_succ hG
  have hK : va_K (dC, dI) xCl [(k2, .boolean)] s := hK
  have hP : va_P (dC, dI) xCl [(h0, .inr (8, [.int 0, .ref h1, .ref h2, .ref o0, .ref h3, .int 0])), (h1, .inr (0, [.int 1, .ref o1, .int 1])), (h2, .inr (0, [.int 0, .ref z.1, .int 0])), (h3, .inr (0, [.int 0, .ref z.1, .int 0])), (a1, .inl (k2, 40, .inl (fun _ => 0)))] H3 := hP
  have hD : va_D A [(h0, .inr (8, [.int 0, .ref h1, .ref h2, .ref o0, .ref h3, .int 0])), (h1, .inr (0, [.int 1, .ref o1, .int 1])), (h2, .inr (0, [.int 0, .ref z.1, .int 0])), (h3, .inr (0, [.int 0, .ref z.1, .int 0])), (a1, .inl (k2, 40, .inl (fun _ => 0)))] := hD
  refine W.widen (k := 1) (n := 40) (by decide) (by decide) ?_
  refine lv_astore_n (lv' := [(1, .ref a1), (0, .ref h0)]) hx hb dX9_putInOrder_4 rfl hl (by decide) rfl (fun ls hl => ?_)
  refine lv_aload_n hx hb dX9_putInOrder_5 rfl (lv_at hl 1 rfl) ?_
  refine va_get (D := (dC, dI)) (ci := 8) (v := .ref h3) (C := RX9) (T := TX9) (N := 6) hx hb hts in_X9 hown hK hP 0 rfl rfl 4 (by decide) (hts _ q_67) (fun _ h9 => h9) rfl dX9_putInOrder_6 ?_
  have hF4 := va_free (wc := [(h3, .inr (0, [.int 0, .ref z.1, .int 0]))]) hD hS hA [3] rfl
  refine va_callv (va_runV (As := []) (rest := []) ⟨hx, hb, hml, hown, hts⟩ (k19_clear l hl9 dC dI z h3 H3.size) (cwV 0 hts (gV q_291 q_141 q_142 q_12 q_139) rfl rfl rfl (by decide +kernel) ⟨Nat.le_of_ble_eq_true rfl, Nat.le_of_ble_eq_true rfl⟩) ⟨pc_blind, va_recv hK hP (ci := 0) (q0 := 3) rfl rfl, fun U hU hW => ⟨rfl, pc_mk hP hD hK hS hX hT [3] [] rfl rfl rfl rfl hF4 hU hW⟩⟩ rfl rfl hl.1 rfl (lv_room (Nat.le_of_ble_eq_true rfl)) dX9_putInOrder_9 ⟨(Nat.le_of_ble_eq_true rfl), (Nat.le_of_ble_eq_true rfl)⟩) hS (fun q9 _ h9 => hF4 q9 h9) hF4 (fun u6 t6 H6 L6 ht6 hvm6 hw6 hB6 hz6 hk6 hS => ?_)
  obtain ⟨hP, hD, hK⟩ := pq_join (wr := [(h0, .inr (8, [.int 0, .ref h1, .ref h2, .ref o0, .ref h3, .int 0])), (h1, .inr (0, [.int 1, .ref o1, .int 1])), (h2, .inr (0, [.int 0, .ref z.1, .int 0])), (a1, .inl (k2, 40, .inl (fun _ => 0)))]) (tr := [(k2, .boolean)]) (wz := [(h0, .inr (8, [.int 0, .ref h1, .ref h2, .ref o0, .ref h3, .int 0])), (h1, .inr (0, [.int 1, .ref o1, .int 1])), (h2, .inr (0, [.int 0, .ref z.1, .int 0])), (a1, .inl (k2, 40, .inl (fun _ => 0))), (h3, .inr (0, [.int 1, .ref z.1, .int 0]))]) (tz := [(k2, .boolean)]) hP hD hK [3] [0, 1, 2, 4] [0] rfl rfl (by decide) (by decide) rfl hk6 hF4 hB6.1 ht6 hvm6 rfl rfl
  have hG : s.heap.size + 1 ≤ H6.size := Nat.le_trans hG hz6
  refine lv_aload_n hx hb dX9_putInOrder_12 rfl (lv_at hl 1 rfl) ?_
  refine va_get (D := (dC, dI)) (ci := 8) (v := .ref h3) (C := RX9) (T := TX9) (N := 6) hx hb hts in_X9 hown hK hP 0 rfl rfl 4 (by decide) (hts _ q_67) (fun _ h9 => h9) rfl dX9_putInOrder_13 ?_
  have hF8 := va_free (wc := [(h3, .inr (0, [.int 1, .ref z.1, .int 0]))]) hD hS hA [4] rfl
  refine va_calli (va_runV (As := []) (rest := []) ⟨hx, hb, hml, hown, hts⟩ (k9_size l hl9 dC dI z h3 H6.size 1 0) (cwV 0 hts (gV q_272 q_77 q_78 q_12 q_75) rfl rfl rfl (by decide +kernel) ⟨Nat.le_of_ble_eq_true rfl, Nat.le_of_ble_eq_true rfl⟩) ⟨pc_blind, va_recv hK hP (ci := 0) (q0 := 4) rfl rfl, fun U hU hW => ⟨rfl, pc_mk hP hD hK hS hX hT [4] [] rfl rfl rfl rfl hF8 hU hW⟩⟩ rfl rfl hl.1 rfl (lv_room (Nat.le_of_ble_eq_true rfl)) dX9_putInOrder_16 ⟨(Nat.le_of_ble_eq_true rfl), (Nat.le_of_ble_eq_true rfl)⟩) hS (fun q9 _ h9 => hF8 q9 h9) hF8 (fun r11 u10 t10 H10 L10 ht10 hvm10 hw10 hB10 hz10 hk10 hS => ?_)
  obtain ⟨hP, hD, hK⟩ := pq_join (wr := [(h0, .inr (8, [.int 0, .ref h1, .ref h2, .ref o0, .ref h3, .int 0])), (h1, .inr (0, [.int 1, .ref o1, .int 1])), (h2, .inr (0, [.int 0, .ref z.1, .int 0])), (a1, .inl (k2, 40, .inl (fun _ => 0)))]) (tr := [(k2, .boolean)]) (wz := [(h0, .inr (8, [.int 0, .ref h1, .ref h2, .ref o0, .ref h3, .int 0])), (h1, .inr (0, [.int 1, .ref o1, .int 1])), (h2, .inr (0, [.int 0, .ref z.1, .int 0])), (a1, .inl (k2, 40, .inl (fun _ => 0))), (h3, .inr (0, [.int 1, .ref z.1, .int 0]))]) (tz := [(k2, .boolean)]) hP hD hK [4] [0, 1, 2, 3] [0] rfl rfl (by decide) (by decide) rfl hk10 hF8 hB10.1 ht10 hvm10 rfl rfl
  have hG : s.heap.size + 1 ≤ H10.size := Nat.le_trans hG hz10
  refine W.eq (g2 := F0 m 19 ls [.int 0]) (by rw [hw10]) ?_
  refine lv_aload_n hx hb dX9_putInOrder_19 rfl (lv_at hl 1 rfl) ?_
  refine va_get (D := (dC, dI)) (ci := 8) (v := .ref h1) (C := RX9) (T := TX9) (N := 6) hx hb hts in_X9 hown hK hP 0 rfl rfl 1 (by decide) (hts _ q_64) (fun _ h9 => h9) rfl dX9_putInOrder_20 ?_
  have hF12 := va_free (wc := [(h1, .inr (0, [.int 1, .ref o1, .int 1]))]) hD hS hA [1] rfl
  refine va_calli (va_runV (As := []) (rest := [.int 0]) ⟨hx, hb, hml, hown, hts⟩ (k20_size l hl9 dC dI z h1 o1 H10.size 1 1) (cwV 0 hts (gV q_272 q_77 q_78 q_12 q_75) rfl rfl rfl (by decide +kernel) ⟨Nat.le_of_ble_eq_true rfl, Nat.le_of_ble_eq_true rfl⟩) ⟨pc_blind, va_recv hK hP (ci := 0) (q0 := 1) rfl rfl, fun U hU hW => ⟨rfl, pc_mk hP hD hK hS hX hT [1] [] rfl rfl rfl rfl hF12 hU hW⟩⟩ rfl rfl hl.1 rfl (lv_room (Nat.le_of_ble_eq_true rfl)) dX9_putInOrder_23 ⟨(Nat.le_of_ble_eq_true rfl), (Nat.le_of_ble_eq_true rfl)⟩) hS (fun q9 _ h9 => hF12 q9 h9) hF12 (fun r15 u14 t14 H14 L14 ht14 hvm14 hw14 hB14 hz14 hk14 hS => ?_)
  obtain ⟨hP, hD, hK⟩ := pq_join (wr := [(h0, .inr (8, [.int 0, .ref h1, .ref h2, .ref o0, .ref h3, .int 0])), (h2, .inr (0, [.int 0, .ref z.1, .int 0])), (a1, .inl (k2, 40, .inl (fun _ => 0))), (h3, .inr (0, [.int 1, .ref z.1, .int 0]))]) (tr := [(k2, .boolean)]) (wz := [(h0, .inr (8, [.int 0, .ref h1, .ref h2, .ref o0, .ref h3, .int 0])), (h2, .inr (0, [.int 0, .ref z.1, .int 0])), (a1, .inl (k2, 40, .inl (fun _ => 0))), (h3, .inr (0, [.int 1, .ref z.1, .int 0])), (h1, .inr (0, [.int 1, .ref o1, .int 1]))]) (tz := [(k2, .boolean)]) hP hD hK [1] [0, 2, 3, 4] [0] rfl rfl (by decide) (by decide) rfl hk14 hF12 hB14.1 ht14 hvm14 rfl rfl
  have hG : s.heap.size + 1 ≤ H14.size := Nat.le_trans hG hz14
  refine W.eq (g2 := F0 m 26 ls [.int 1, .int 0]) (by rw [hw14]) ?_
  refine lv_icmp_ge (tgt := 165) hx hb dX9_putInOrder_26 (by decide) (fun cz => absurd cz (by decide)) (fun _ => ?_)
  refine lv_iconst (v := 0) hx hb dX9_putInOrder_29 (by decide) ?_
  refine lv_istore_n (lv' := [(2, .int 0), (1, .ref a1), (0, .ref h0)]) hx hb dX9_putInOrder_30 rfl hl (by decide) rfl (fun ls hl => ?_)
  refine lv_iload_n hx hb dX9_putInOrder_31 rfl (lv_at hl 0 rfl) ?_
  refine lv_aload_n hx hb dX9_putInOrder_32 rfl (lv_at hl 2 rfl) ?_
  refine va_get (D := (dC, dI)) (ci := 8) (v := .ref h1) (C := RX9) (T := TX9) (N := 6) hx hb hts in_X9 hown hK hP 0 rfl rfl 1 (by decide) (hts _ q_64) (fun _ h9 => h9) rfl dX9_putInOrder_33 ?_
  have hF16 := va_free (wc := [(h1, .inr (0, [.int 1, .ref o1, .int 1]))]) hD hS hA [4] rfl
  refine va_calli (va_runV (As := []) (rest := [.int 0]) ⟨hx, hb, hml, hown, hts⟩ (k20_size l hl9 dC dI z h1 o1 H14.size 1 1) (cwV 0 hts (gV q_272 q_77 q_78 q_12 q_75) rfl rfl rfl (by decide +kernel) ⟨Nat.le_of_ble_eq_true rfl, Nat.le_of_ble_eq_true rfl⟩) ⟨pc_blind, va_recv hK hP (ci := 0) (q0 := 4) rfl rfl, fun U hU hW => ⟨rfl, pc_mk hP hD hK hS hX hT [4] [] rfl rfl rfl rfl hF16 hU hW⟩⟩ rfl rfl hl.1 rfl (lv_room (Nat.le_of_ble_eq_true rfl)) dX9_putInOrder_36 ⟨(Nat.le_of_ble_eq_true rfl), (Nat.le_of_ble_eq_true rfl)⟩) hS (fun q9 _ h9 => hF16 q9 h9) hF16 (fun r19 u18 t18 H18 L18 ht18 hvm18 hw18 hB18 hz18 hk18 hS => ?_)
  obtain ⟨hP, hD, hK⟩ := pq_join (wr := [(h0, .inr (8, [.int 0, .ref h1, .ref h2, .ref o0, .ref h3, .int 0])), (h2, .inr (0, [.int 0, .ref z.1, .int 0])), (a1, .inl (k2, 40, .inl (fun _ => 0))), (h3, .inr (0, [.int 1, .ref z.1, .int 0]))]) (tr := [(k2, .boolean)]) (wz := [(h0, .inr (8, [.int 0, .ref h1, .ref h2, .ref o0, .ref h3, .int 0])), (h2, .inr (0, [.int 0, .ref z.1, .int 0])), (a1, .inl (k2, 40, .inl (fun _ => 0))), (h3, .inr (0, [.int 1, .ref z.1, .int 0])), (h1, .inr (0, [.int 1, .ref o1, .int 1]))]) (tz := [(k2, .boolean)]) hP hD hK [4] [0, 1, 2, 3] [0] rfl rfl (by decide) (by decide) rfl hk18 hF16 hB18.1 ht18 hvm18 rfl rfl
  have hG : s.heap.size + 1 ≤ H18.size := Nat.le_trans hG hz18
  refine W.eq (g2 := F0 m 39 ls [.int 1, .int 0]) (by rw [hw18]) ?_
  refine lv_icmp_ge (tgt := 162) hx hb dX9_putInOrder_39 (by decide) (fun cz => absurd cz (by decide)) (fun _ => ?_)
  refine lv_aload_n hx hb dX9_putInOrder_42 rfl (lv_at hl 1 rfl) ?_
  refine lv_iload_n hx hb dX9_putInOrder_43 rfl (lv_at hl 0 rfl) ?_
  refine va_zald hx hb hK hP 2 0 rfl rfl (i := 0) (by unfold vp_in; decide) dX9_putInOrder_44 ?_
  refine W.eq (g2 := F0 m 45 ls [.int 0]) rfl ?_
  refine lv_if_ne (tgt := 52) hx hb dX9_putInOrder_45 (by decide) (fun cz => absurd (by decide) cz) (fun _ => ?_)
  refine lv_iconst (v := 1) hx hb dX9_putInOrder_48 (by decide) ?_
  refine lv_goto (tgt := 53) hx hb dX9_putInOrder_49 (by decide) ?_
  refine lv_istore_n (lv' := [(3, .int 1), (2, .int 0), (1, .ref a1), (0, .ref h0)]) hx hb dX9_putInOrder_53 rfl hl (by decide) rfl (fun ls hl => ?_)
  refine lv_aload_n hx hb dX9_putInOrder_54 rfl (lv_at hl 3 rfl) ?_
  refine va_get (D := (dC, dI)) (ci := 8) (v := .ref h2) (C := RX9) (T := TX9) (N := 6) hx hb hts in_X9 hown hK hP 0 rfl rfl 2 (by decide) (hts _ q_65) (fun _ h9 => h9) rfl dX9_putInOrder_55 ?_
  have hF20 := va_free (wc := [(h2, .inr (0, [.int 0, .ref z.1, .int 0]))]) hD hS hA [1] rfl
  refine va_callr (va_runV (As := []) (rest := []) ⟨hx, hb, hml, hown, hts⟩ (k49_iterator l hl9 dC dI z h2 H18.size) (cwV 0 hts (gV q_256 q_257 q_258 q_12 q_255) rfl rfl rfl (by decide +kernel) ⟨Nat.le_of_ble_eq_true rfl, Nat.le_of_ble_eq_true rfl⟩) ⟨pc_blind, va_recv hK hP (ci := 0) (q0 := 1) rfl rfl, fun U hU hW => ⟨rfl, pc_mk hP hD hK hS hX hT [1] [] rfl rfl rfl rfl hF20 hU hW⟩⟩ rfl rfl hl.1 rfl (lv_room (Nat.le_of_ble_eq_true rfl)) dX9_putInOrder_58 ⟨(Nat.le_of_ble_eq_true rfl), (Nat.le_of_ble_eq_true rfl)⟩) hS (fun q9 _ h9 => hF20 q9 h9) hF20 (fun u22 r23 t22 H22 L22 ht22 hvm22 hw22 hB22 hz22 hk22 hS => ?_)
  obtain ⟨a24, hr22, hB22⟩ := hB22
  obtain ⟨hP, hD, hK⟩ := pq_join (wr := [(h0, .inr (8, [.int 0, .ref h1, .ref h2, .ref o0, .ref h3, .int 0])), (a1, .inl (k2, 40, .inl (fun _ => 0))), (h3, .inr (0, [.int 1, .ref z.1, .int 0])), (h1, .inr (0, [.int 1, .ref o1, .int 1]))]) (tr := [(k2, .boolean)]) (wz := [(h0, .inr (8, [.int 0, .ref h1, .ref h2, .ref o0, .ref h3, .int 0])), (a1, .inl (k2, 40, .inl (fun _ => 0))), (h3, .inr (0, [.int 1, .ref z.1, .int 0])), (h1, .inr (0, [.int 1, .ref o1, .int 1])), (h2, .inr (0, [.int 0, .ref z.1, .int 0])), (a24, .inr (1, [.int 0, .int (-1), .int 0, .ref h2]))]) (tz := [(k2, .boolean)]) hP hD hK [1] [0, 2, 3, 4] [0] rfl rfl (by decide) (by decide) rfl hk22 hF20 hB22.1 ht22 hvm22 rfl rfl
  have hG : s.heap.size + 2 ≤ H22.size := va_gr (g := 1) (g1 := 1) hG (by rw [← ht22]; exact hB22.2)
  refine W.eq (g2 := F0 m 61 ls [.ref a24]) (by rw [hr22]) ?_
  refine W.widen (k := 2) (n := 44) (by decide) (by decide) ?_
  refine lv_astore (lv' := [(4, .ref a24), (3, .int 1), (2, .int 0), (1, .ref a1), (0, .ref h0)]) hx hb dX9_putInOrder_61 hl (by decide) rfl (fun ls hl => ?_)
  refine lv_aload hx hb dX9_putInOrder_63 (lv_at hl 0 rfl) ?_
  have hF25 := va_free (wc := [(a24, .inr (1, [.int 0, .int (-1), .int 0, .ref h2])), (h2, .inr (0, [.int 0, .ref z.1, .int 0]))]) hD hS hA [5, 4] rfl
  refine va_callFi (va_runF (As := []) (rest := []) (hK.1 1 _ rfl).2 ⟨hx, hb, hml, hown, hts⟩ (k50_hasNext l hl9 dC dI z a24 h2 H22.size) (va_cwF 0 hts (gF q_261 q_262 q_263 q_246 q_260) rfl rfl rfl hT.2.2.2.2.2.2.1 (by decide +kernel) ⟨Nat.le_of_ble_eq_true rfl, Nat.le_of_ble_eq_true rfl⟩) ⟨pc_blind, va_recv hK hP (ci := 1) (q0 := 5) rfl rfl, fun U hU hW => ⟨rfl, pc_mk hP hD hK hS hX hT [5, 4] [] rfl rfl rfl rfl hF25 hU hW⟩⟩ rfl rfl hl.1 rfl (lv_room (Nat.le_of_ble_eq_true rfl)) dX9_putInOrder_65 ⟨(Nat.le_of_ble_eq_true rfl), (Nat.le_of_ble_eq_true rfl)⟩) hS (fun q9 _ h9 => hF25 q9 h9) hF25 (fun r28 u27 t27 H27 L27 ht27 hvm27 hw27 hB27 hz27 hk27 hS => ?_)
  obtain ⟨hP, hD, hK⟩ := pq_join (wr := [(h0, .inr (8, [.int 0, .ref h1, .ref h2, .ref o0, .ref h3, .int 0])), (a1, .inl (k2, 40, .inl (fun _ => 0))), (h3, .inr (0, [.int 1, .ref z.1, .int 0])), (h1, .inr (0, [.int 1, .ref o1, .int 1]))]) (tr := [(k2, .boolean)]) (wz := [(h0, .inr (8, [.int 0, .ref h1, .ref h2, .ref o0, .ref h3, .int 0])), (a1, .inl (k2, 40, .inl (fun _ => 0))), (h3, .inr (0, [.int 1, .ref z.1, .int 0])), (h1, .inr (0, [.int 1, .ref o1, .int 1])), (a24, .inr (1, [.int 0, .int (-1), .int 0, .ref h2])), (h2, .inr (0, [.int 0, .ref z.1, .int 0]))]) (tz := [(k2, .boolean)]) hP hD hK [5, 4] [0, 1, 2, 3] [0] rfl rfl (by decide) (by decide) rfl hk27 hF25 hB27.1 ht27 hvm27 rfl rfl
  have hG : s.heap.size + 2 ≤ H27.size := Nat.le_trans hG hz27
  refine W.eq (g2 := F0 m 70 ls [.int 0]) (by rw [hw27]) ?_
  refine lv_if_eq (tgt := 136) hx hb dX9_putInOrder_70 (by decide) (fun _ => ?_) (fun cz => absurd (by decide) cz)
  refine lv_iload_n hx hb dX9_putInOrder_136 rfl (lv_at hl 1 rfl) ?_
  refine lv_if_eq (tgt := 156) hx hb dX9_putInOrder_137 (by decide) (fun cz => absurd cz (by decide)) (fun _ => ?_)
  refine lv_aload_n hx hb dX9_putInOrder_140 rfl (lv_at hl 3 rfl) ?_
  refine lv_iload_n hx hb dX9_putInOrder_141 rfl (lv_at hl 2 rfl) ?_
  refine lv_iconst (v := 1) hx hb dX9_putInOrder_142 (by decide) ?_
  refine va_zast hx hb hK hP hD (va_Sre hS) 1 0 rfl rfl (i := 0) (by unfold vp_in; decide) dX9_putInOrder_143 (fun H29 _ hP hD hS' => ?_)
  have hG : s.heap.size + 2 ≤ H29.size := Nat.le_trans hG hS'.1
  have hS := va_Str hS hS'
  have hP : va_P (dC, dI) xCl [(h0, .inr (8, [.int 0, .ref h1, .ref h2, .ref o0, .ref h3, .int 0])), (a1, .inl (k2, 40, .inl (upd (fun _ => 0) 0 1))), (h3, .inr (0, [.int 1, .ref z.1, .int 0])), (h1, .inr (0, [.int 1, .ref o1, .int 1])), (a24, .inr (1, [.int 0, .int (-1), .int 0, .ref h2])), (h2, .inr (0, [.int 0, .ref z.1, .int 0]))] H29 := hP
  have hD : va_D A [(h0, .inr (8, [.int 0, .ref h1, .ref h2, .ref o0, .ref h3, .int 0])), (a1, .inl (k2, 40, .inl (upd (fun _ => 0) 0 1))), (h3, .inr (0, [.int 1, .ref z.1, .int 0])), (h1, .inr (0, [.int 1, .ref o1, .int 1])), (a24, .inr (1, [.int 0, .int (-1), .int 0, .ref h2])), (h2, .inr (0, [.int 0, .ref z.1, .int 0]))] := hD
  refine lv_aload_n hx hb dX9_putInOrder_144 rfl (lv_at hl 4 rfl) ?_
  refine va_get (D := (dC, dI)) (ci := 8) (v := .ref h3) (C := RX9) (T := TX9) (N := 6) hx hb hts in_X9 hown hK hP 0 rfl rfl 4 (by decide) (hts _ q_67) (fun _ h9 => h9) rfl dX9_putInOrder_145 ?_
  refine lv_iload_n hx hb dX9_putInOrder_148 rfl (lv_at hl 2 rfl) ?_
  have hF30 := va_free (wc := []) hD hS hA [] rfl
  refine va_callr (va_runS (As := [.int 0]) (rest := [.ref h3]) ⟨hx, hb, hml, hown, hts⟩ (k58_valueOf l hl9 dC dI z H29.size) (va_cwS 1 hts (gS q_295 q_296 q_297 q_294) rfl rfl rfl (by decide +kernel) ⟨Nat.le_of_ble_eq_true rfl, Nat.le_of_ble_eq_true rfl⟩) ⟨pc_blind, fun U hU hW => ⟨rfl, pc_mk hP hD hK hS hX hT [] [] rfl rfl rfl rfl hF30 hU hW⟩⟩ rfl rfl hl.1 rfl (lv_room (Nat.le_of_ble_eq_true rfl)) dX9_putInOrder_149 ⟨(Nat.le_of_ble_eq_true rfl), (Nat.le_of_ble_eq_true rfl)⟩) hS (fun q9 _ h9 => hF30 q9 h9) hF30 (fun u32 r33 t32 H32 L32 ht32 hvm32 hw32 hB32 hz32 hk32 hS => ?_)
  obtain ⟨hr32, hB32⟩ := hB32
  obtain ⟨hP, hD, hK⟩ := pq_join (wr := [(h0, .inr (8, [.int 0, .ref h1, .ref h2, .ref o0, .ref h3, .int 0])), (a1, .inl (k2, 40, .inl (upd (fun _ => 0) 0 1))), (h3, .inr (0, [.int 1, .ref z.1, .int 0])), (h1, .inr (0, [.int 1, .ref o1, .int 1])), (a24, .inr (1, [.int 0, .int (-1), .int 0, .ref h2])), (h2, .inr (0, [.int 0, .ref z.1, .int 0]))]) (tr := [(k2, .boolean)]) (wz := [(h0, .inr (8, [.int 0, .ref h1, .ref h2, .ref o0, .ref h3, .int 0])), (a1, .inl (k2, 40, .inl (upd (fun _ => 0) 0 1))), (h3, .inr (0, [.int 1, .ref z.1, .int 0])), (h1, .inr (0, [.int 1, .ref o1, .int 1])), (a24, .inr (1, [.int 0, .int (-1), .int 0, .ref h2])), (h2, .inr (0, [.int 0, .ref z.1, .int 0]))]) (tz := [(k2, .boolean)]) hP hD hK [] [0, 1, 2, 3, 4, 5] [0] rfl rfl (by decide) (by decide) rfl hk32 hF30 hB32.1 ht32 hvm32 rfl rfl
  have hG : s.heap.size + 2 ≤ H32.size := Nat.le_trans hG hz32
  refine W.eq (g2 := F0 m 152 ls [.ref (z.2.2.1 128), .ref h3]) (by rw [hr32]) ?_
  have hF34 := va_free (wc := [(h3, .inr (0, [.int 1, .ref z.1, .int 0]))]) hD hS hA [2] rfl
  refine va_calli (va_runV (As := [.ref (z.2.2.1 128)]) (rest := []) ⟨hx, hb, hml, hown, hts⟩ (k60_add l hl9 dC dI z h3 H32.size) (cwV 1 hts (gV q_284 q_128 q_129 q_12 q_126) rfl rfl rfl (by decide +kernel) ⟨Nat.le_of_ble_eq_true rfl, Nat.le_of_ble_eq_true rfl⟩) ⟨pc_blind, va_recv hK hP (ci := 0) (q0 := 2) rfl rfl, fun U hU hW => ⟨rfl, pc_mk hP hD hK hS hX hT [2] [] rfl rfl rfl rfl hF34 hU hW⟩⟩ rfl rfl hl.1 rfl (lv_room (Nat.le_of_ble_eq_true rfl)) dX9_putInOrder_152 ⟨(Nat.le_of_ble_eq_true rfl), (Nat.le_of_ble_eq_true rfl)⟩) hS (fun q9 _ h9 => hF34 q9 h9) hF34 (fun r37 u36 t36 H36 L36 ht36 hvm36 hw36 hB36 hz36 hk36 hS => ?_)
  obtain ⟨a38, k39, hB36⟩ := hB36
  obtain ⟨hP, hD, hK⟩ := pq_join (wr := [(h0, .inr (8, [.int 0, .ref h1, .ref h2, .ref o0, .ref h3, .int 0])), (a1, .inl (k2, 40, .inl (upd (fun _ => 0) 0 1))), (h1, .inr (0, [.int 1, .ref o1, .int 1])), (a24, .inr (1, [.int 0, .int (-1), .int 0, .ref h2])), (h2, .inr (0, [.int 0, .ref z.1, .int 0]))]) (tr := [(k2, .boolean)]) (wz := [(h0, .inr (8, [.int 0, .ref h1, .ref h2, .ref o0, .ref h3, .int 0])), (a1, .inl (k2, 40, .inl (upd (fun _ => 0) 0 1))), (h1, .inr (0, [.int 1, .ref o1, .int 1])), (a24, .inr (1, [.int 0, .int (-1), .int 0, .ref h2])), (h2, .inr (0, [.int 0, .ref z.1, .int 0])), (h3, .inr (0, [.int 2, .ref a38, .int 1])), (a38, .inl (k39, 10, .inr (.inr (.inr (.inr (va_up (fun _ => none) 0 (some (z.2.2.1 128))))))))]) (tz := [(k2, .boolean), (k39, .object "java/lang/Object")]) hP hD hK [2] [0, 1, 3, 4, 5] [0] rfl rfl (by decide) (by decide) rfl hk36 hF34 hB36.1 ht36 hvm36 rfl rfl
  have hG : s.heap.size + 3 ≤ H36.size := va_gr (g := 2) (g1 := 1) hG (by rw [← ht36]; exact hB36.2)
  refine W.eq (g2 := F0 m 155 ls [.int 1]) (by rw [hw36]) ?_
  refine W.widen (k := 3) (n := 54) (by decide) (by decide) ?_
  refine lv_pop hx hb dX9_putInOrder_155 rfl ?_
  refine lv_iinc (v := 1) (lv' := [(2, .int 1), (4, .ref a24), (3, .int 1), (1, .ref a1), (0, .ref h0)]) hx hb dX9_putInOrder_156 hl (k := 2) rfl (by decide) (by decide) rfl (fun ls hl => ?_)
  refine lv_goto (tgt := 31) hx hb dX9_putInOrder_159 (by decide) ?_
  refine lv_iload_n hx hb dX9_putInOrder_31 rfl (lv_at hl 0 rfl) ?_
  refine lv_aload_n hx hb dX9_putInOrder_32 rfl (lv_at hl 4 rfl) ?_
  refine va_get (D := (dC, dI)) (ci := 8) (v := .ref h1) (C := RX9) (T := TX9) (N := 6) hx hb hts in_X9 hown hK hP 0 rfl rfl 1 (by decide) (hts _ q_64) (fun _ h9 => h9) rfl dX9_putInOrder_33 ?_
  have hF40 := va_free (wc := [(h1, .inr (0, [.int 1, .ref o1, .int 1]))]) hD hS hA [2] rfl
  refine va_calli (va_runV (As := []) (rest := [.int 1]) ⟨hx, hb, hml, hown, hts⟩ (k20_size l hl9 dC dI z h1 o1 H36.size 1 1) (cwV 0 hts (gV q_272 q_77 q_78 q_12 q_75) rfl rfl rfl (by decide +kernel) ⟨Nat.le_of_ble_eq_true rfl, Nat.le_of_ble_eq_true rfl⟩) ⟨pc_blind, va_recv hK hP (ci := 0) (q0 := 2) rfl rfl, fun U hU hW => ⟨rfl, pc_mk hP hD hK hS hX hT [2] [] rfl rfl rfl rfl hF40 hU hW⟩⟩ rfl rfl hl.1 rfl (lv_room (Nat.le_of_ble_eq_true rfl)) dX9_putInOrder_36 ⟨(Nat.le_of_ble_eq_true rfl), (Nat.le_of_ble_eq_true rfl)⟩) hS (fun q9 _ h9 => hF40 q9 h9) hF40 (fun r43 u42 t42 H42 L42 ht42 hvm42 hw42 hB42 hz42 hk42 hS => ?_)
  obtain ⟨hP, hD, hK⟩ := pq_join (wr := [(h0, .inr (8, [.int 0, .ref h1, .ref h2, .ref o0, .ref h3, .int 0])), (a1, .inl (k2, 40, .inl (upd (fun _ => 0) 0 1))), (a24, .inr (1, [.int 0, .int (-1), .int 0, .ref h2])), (h2, .inr (0, [.int 0, .ref z.1, .int 0])), (h3, .inr (0, [.int 2, .ref a38, .int 1])), (a38, .inl (k39, 10, .inr (.inr (.inr (.inr (va_up (fun _ => none) 0 (some (z.2.2.1 128))))))))]) (tr := [(k2, .boolean), (k39, .object "java/lang/Object")]) (wz := [(h0, .inr (8, [.int 0, .ref h1, .ref h2, .ref o0, .ref h3, .int 0])), (a1, .inl (k2, 40, .inl (upd (fun _ => 0) 0 1))), (a24, .inr (1, [.int 0, .int (-1), .int 0, .ref h2])), (h2, .inr (0, [.int 0, .ref z.1, .int 0])), (h3, .inr (0, [.int 2, .ref a38, .int 1])), (a38, .inl (k39, 10, .inr (.inr (.inr (.inr (va_up (fun _ => none) 0 (some (z.2.2.1 128)))))))), (h1, .inr (0, [.int 1, .ref o1, .int 1]))]) (tz := [(k2, .boolean), (k39, .object "java/lang/Object")]) hP hD hK [2] [0, 1, 3, 4, 5, 6] [0, 1] rfl rfl (by decide) (by decide) rfl hk42 hF40 hB42.1 ht42 hvm42 rfl rfl
  have hG : s.heap.size + 3 ≤ H42.size := Nat.le_trans hG hz42
  refine W.eq (g2 := F0 m 39 ls [.int 1, .int 1]) (by rw [hw42]) ?_
  refine lv_icmp_ge (tgt := 162) hx hb dX9_putInOrder_39 (by decide) (fun _ => ?_) (fun cz => absurd (by decide) cz)
  refine lv_goto (tgt := 12) hx hb dX9_putInOrder_162 (by decide) ?_
  refine lv_aload_n hx hb dX9_putInOrder_12 rfl (lv_at hl 4 rfl) ?_
  refine va_get (D := (dC, dI)) (ci := 8) (v := .ref h3) (C := RX9) (T := TX9) (N := 6) hx hb hts in_X9 hown hK hP 0 rfl rfl 4 (by decide) (hts _ q_67) (fun _ h9 => h9) rfl dX9_putInOrder_13 ?_
  have hF44 := va_free (wc := [(h3, .inr (0, [.int 2, .ref a38, .int 1]))]) hD hS hA [4] rfl
  refine va_calli (va_runV (As := []) (rest := []) ⟨hx, hb, hml, hown, hts⟩ (k20_size l hl9 dC dI z h3 a38 H42.size 2 1) (cwV 0 hts (gV q_272 q_77 q_78 q_12 q_75) rfl rfl rfl (by decide +kernel) ⟨Nat.le_of_ble_eq_true rfl, Nat.le_of_ble_eq_true rfl⟩) ⟨pc_blind, va_recv hK hP (ci := 0) (q0 := 4) rfl rfl, fun U hU hW => ⟨rfl, pc_mk hP hD hK hS hX hT [4] [] rfl rfl rfl rfl hF44 hU hW⟩⟩ rfl rfl hl.1 rfl (lv_room (Nat.le_of_ble_eq_true rfl)) dX9_putInOrder_16 ⟨(Nat.le_of_ble_eq_true rfl), (Nat.le_of_ble_eq_true rfl)⟩) hS (fun q9 _ h9 => hF44 q9 h9) hF44 (fun r47 u46 t46 H46 L46 ht46 hvm46 hw46 hB46 hz46 hk46 hS => ?_)
  obtain ⟨hP, hD, hK⟩ := pq_join (wr := [(h0, .inr (8, [.int 0, .ref h1, .ref h2, .ref o0, .ref h3, .int 0])), (a1, .inl (k2, 40, .inl (upd (fun _ => 0) 0 1))), (a24, .inr (1, [.int 0, .int (-1), .int 0, .ref h2])), (h2, .inr (0, [.int 0, .ref z.1, .int 0])), (a38, .inl (k39, 10, .inr (.inr (.inr (.inr (va_up (fun _ => none) 0 (some (z.2.2.1 128)))))))), (h1, .inr (0, [.int 1, .ref o1, .int 1]))]) (tr := [(k2, .boolean), (k39, .object "java/lang/Object")]) (wz := [(h0, .inr (8, [.int 0, .ref h1, .ref h2, .ref o0, .ref h3, .int 0])), (a1, .inl (k2, 40, .inl (upd (fun _ => 0) 0 1))), (a24, .inr (1, [.int 0, .int (-1), .int 0, .ref h2])), (h2, .inr (0, [.int 0, .ref z.1, .int 0])), (a38, .inl (k39, 10, .inr (.inr (.inr (.inr (va_up (fun _ => none) 0 (some (z.2.2.1 128)))))))), (h1, .inr (0, [.int 1, .ref o1, .int 1])), (h3, .inr (0, [.int 2, .ref a38, .int 1]))]) (tz := [(k2, .boolean), (k39, .object "java/lang/Object")]) hP hD hK [4] [0, 1, 2, 3, 5, 6] [0, 1] rfl rfl (by decide) (by decide) rfl hk46 hF44 hB46.1 ht46 hvm46 rfl rfl
  have hG : s.heap.size + 3 ≤ H46.size := Nat.le_trans hG hz46
  refine W.eq (g2 := F0 m 19 ls [.int 1]) (by rw [hw46]) ?_
  refine lv_aload_n hx hb dX9_putInOrder_19 rfl (lv_at hl 4 rfl) ?_
  refine va_get (D := (dC, dI)) (ci := 8) (v := .ref h1) (C := RX9) (T := TX9) (N := 6) hx hb hts in_X9 hown hK hP 0 rfl rfl 1 (by decide) (hts _ q_64) (fun _ h9 => h9) rfl dX9_putInOrder_20 ?_
  have hF48 := va_free (wc := [(h1, .inr (0, [.int 1, .ref o1, .int 1]))]) hD hS hA [5] rfl
  refine va_calli (va_runV (As := []) (rest := [.int 1]) ⟨hx, hb, hml, hown, hts⟩ (k20_size l hl9 dC dI z h1 o1 H46.size 1 1) (cwV 0 hts (gV q_272 q_77 q_78 q_12 q_75) rfl rfl rfl (by decide +kernel) ⟨Nat.le_of_ble_eq_true rfl, Nat.le_of_ble_eq_true rfl⟩) ⟨pc_blind, va_recv hK hP (ci := 0) (q0 := 5) rfl rfl, fun U hU hW => ⟨rfl, pc_mk hP hD hK hS hX hT [5] [] rfl rfl rfl rfl hF48 hU hW⟩⟩ rfl rfl hl.1 rfl (lv_room (Nat.le_of_ble_eq_true rfl)) dX9_putInOrder_23 ⟨(Nat.le_of_ble_eq_true rfl), (Nat.le_of_ble_eq_true rfl)⟩) hS (fun q9 _ h9 => hF48 q9 h9) hF48 (fun r51 u50 t50 H50 L50 ht50 hvm50 hw50 hB50 hz50 hk50 hS => ?_)
  obtain ⟨hP, hD, hK⟩ := pq_join (wr := [(h0, .inr (8, [.int 0, .ref h1, .ref h2, .ref o0, .ref h3, .int 0])), (a1, .inl (k2, 40, .inl (upd (fun _ => 0) 0 1))), (a24, .inr (1, [.int 0, .int (-1), .int 0, .ref h2])), (h2, .inr (0, [.int 0, .ref z.1, .int 0])), (a38, .inl (k39, 10, .inr (.inr (.inr (.inr (va_up (fun _ => none) 0 (some (z.2.2.1 128)))))))), (h3, .inr (0, [.int 2, .ref a38, .int 1]))]) (tr := [(k2, .boolean), (k39, .object "java/lang/Object")]) (wz := [(h0, .inr (8, [.int 0, .ref h1, .ref h2, .ref o0, .ref h3, .int 0])), (a1, .inl (k2, 40, .inl (upd (fun _ => 0) 0 1))), (a24, .inr (1, [.int 0, .int (-1), .int 0, .ref h2])), (h2, .inr (0, [.int 0, .ref z.1, .int 0])), (a38, .inl (k39, 10, .inr (.inr (.inr (.inr (va_up (fun _ => none) 0 (some (z.2.2.1 128)))))))), (h3, .inr (0, [.int 2, .ref a38, .int 1])), (h1, .inr (0, [.int 1, .ref o1, .int 1]))]) (tz := [(k2, .boolean), (k39, .object "java/lang/Object")]) hP hD hK [5] [0, 1, 2, 3, 4, 6] [0, 1] rfl rfl (by decide) (by decide) rfl hk50 hF48 hB50.1 ht50 hvm50 rfl rfl
  have hG : s.heap.size + 3 ≤ H50.size := Nat.le_trans hG hz50
  refine W.eq (g2 := F0 m 26 ls [.int 1, .int 1]) (by rw [hw50]) ?_
  refine lv_icmp_ge (tgt := 165) hx hb dX9_putInOrder_26 (by decide) (fun _ => ?_) (fun cz => absurd (by decide) cz)
  exact W.vret hx hb hr (fun t9 ht9 hW9 => ⟨⟨(), rfl, trivial, ⟨a38, k39, ⟨pq_mk (wc := [(h0, .inr (8, [.int 0, .ref h1, .ref h2, .ref o0, .ref h3, .int 0])), (h1, .inr (0, [.int 1, .ref o1, .int 1])), (h2, .inr (0, [.int 0, .ref z.1, .int 0])), (h3, .inr (0, [.int 2, .ref a38, .int 1])), (a38, .inl (k39, 10, .inr (.inr (.inr (.inr (va_up (fun _ => none) 0 (some (z.2.2.1 128))))))))]) (tc := [(k39, .object "java/lang/Object")]) hP hD hK [0, 6, 3, 5, 4] [1] rfl rfl rfl rfl ht9 hW9, by rw [ht9]; exact Nat.le_trans (Nat.add_le_add_left (Nat.le_of_ble_eq_true rfl) _) hG⟩⟩⟩, hS.F ht9⟩) hS.2.2 dX9_putInOrder_165

set_option maxHeartbeats 4000000 in
set_option maxRecDepth 100000 in
theorem k62_init (l : Launch) (hl9 : l.stackTraces = false) (dC : Nat → ClassId) (dI : Nat → Nat → Nat) (z : XZ) (h0 h1 : Nat) (o0 : Nat) (sz : Nat) : Met l yJx35411_init_45d68 (.code yJx35411_init_45d68 cJx35411_init_45d68 2 none :: wsL_law) ({ frames := 1, cells := 0, slots := 0, locals := 16 }) (va_Pc [.ref h0, .ref h1] (PC (dC, dI) [(h0, .inr (1, [.int 0, .int 0, .int 0, .null])), (h1, .inr (0, [.int 1, .ref o0, .int 1]))] [] sz z)) (va_Qv (fun (_ : Unit) => True) (fun (_ : Unit) (t : State) => PG (dC, dI) [(h0, .inr (1, [.int 0, .int (-1), .int 1, .ref h1])), (h1, .inr (0, [.int 1, .ref o0, .int 1]))] [] (va_A [(h0, .inr (1, [.int 0, .int 0, .int 0, .null])), (h1, .inr (0, [.int 1, .ref o0, .int 1]))] sz) sz 0 t) (va_A [(h0, .inr (1, [.int 0, .int 0, .int 0, .null])), (h1, .inr (0, [.int 1, .ref o0, .int 1]))] sz)) 0 0 (va_A [(h0, .inr (1, [.int 0, .int 0, .int 0, .null])), (h1, .inr (0, [.int 1, .ref o0, .int 1]))] sz) := by
  refine Met.ofW (cc := cJx35411_init_45d68) (maxL := 2) (ret := none) (by decide) rfl ?_
  intro p e s m args below meth c s₁ B hml hv
  obtain ⟨rfl, hsz, hP, hK, hD0, hX, hT⟩ := hv
  have hx := B.exec
  have hb := B.bytes
  have hr := B.returns
  have hts0 := atoms_spec (ws := .code yJx35411_init_45d68 cJx35411_init_45d68 2 none :: wsL_law) B.pre
  have hts := xTail hts0
  have hown : s.vm.findClass RJx35411 = some m.cls := findClass_of_methodNamed B.named
  have hlocks := B.notSynchronized
  have hin : meth.name = "<init>" := (name_of_methodNamed B.named B.method).1
  subst hsz
  have hD := hD0.self (sz := s.heap.size)
  generalize hAe : va_A [(h0, .inr (1, [.int 0, .int 0, .int 0, .null])), (h1, .inr (0, [.int 1, .ref o0, .int 1]))] s.heap.size = A at hD hX ⊢
  have hA : ∀ q : Nat, s.heap.size ≤ q → A q := fun q h => by rw [← hAe]; exact Or.inr h
  have hS : va_S A s.heap s.heap [] := va_S.rf
  have hG : s.heap.size + 0 ≤ s.heap.size := Nat.le_refl _
  have hl := lv_entry ([.ref h0, .ref h1]) (n := 2) (Nat.le_of_ble_eq_true rfl)
  rw [lg_entry_eq]
  generalize (lg_sl ([.ref h0, .ref h1]) ++ List.replicate (2 - (lg_sl ([.ref h0, .ref h1])).length) Slot.unset).toArray = ls at hl ⊢
  have hl : lv_has ls 2 [(0, .ref h0), (1, .ref h1)] := hl
  refine lv_aload_n hx hb dJx35411_init_45d68_0 rfl (lv_at hl 0 rfl) ?_
  refine lv_aload_n hx hb dJx35411_init_45d68_1 rfl (lv_at hl 1 rfl) ?_
  refine va_putF (D := (dC, dI)) (ci := 1) (v := .ref h1) (ty := .object "java/util/ArrayList") (C := RJx35411) (T := TJx35411) (N := 4) hx hb hts in_Jx35411 tyJx35411 tyJx35411_ok nmJx35411 hown hK hP hD (va_Sre hS) 0 rfl rfl 3 (by decide) (hts _ q_247) (fun _ h9 => h9) rfl hin rfl (by decide +kernel) rfl rfl (Nat.le_of_ble_eq_true rfl) dJx35411_init_45d68_2 (fun H1 _ hP hD hS' => ?_)
  have hG : s.heap.size + 0 ≤ H1.size := Nat.le_trans hG hS'.1
  have hS := va_Str hS hS'
  have hP : va_P (dC, dI) xCl [(h0, .inr (1, [.int 0, .int 0, .int 0, .ref h1])), (h1, .inr (0, [.int 1, .ref o0, .int 1]))] H1 := hP
  have hD : va_D A [(h0, .inr (1, [.int 0, .int 0, .int 0, .ref h1])), (h1, .inr (0, [.int 1, .ref o0, .int 1]))] := hD
  refine lv_aload_n hx hb dJx35411_init_45d68_5 rfl (lv_at hl 0 rfl) ?_
  refine W.objInit hx hb hown (hts _ q_248) (hts _ q_4) (hts _ q_5) rfl (by rw [hml]; exact hl.1) rfl dJx35411_init_45d68_6 (Nat.le_of_ble_eq_true rfl) (Nat.le_of_ble_eq_true rfl) ?_
  refine W.eq (g2 := F0 m 9 ls []) rfl ?_
  refine lv_aload_n hx hb dJx35411_init_45d68_9 rfl (lv_at hl 0 rfl) ?_
  refine lv_iconst (v := (-1)) hx hb dJx35411_init_45d68_10 (by decide) ?_
  refine va_put (D := (dC, dI)) (ci := 1) (v := .int (-1)) (ty := .int) (C := RJx35411) (T := TJx35411) (N := 4) hx hb hts in_Jx35411 tyJx35411 tyJx35411_ok nmJx35411 hown hK hP hD (va_Sre hS) 0 rfl rfl 1 (by decide) (hts _ q_249) (fun _ h9 => h9) rfl (by decide +kernel) rfl rfl (Nat.le_of_ble_eq_true rfl) dJx35411_init_45d68_11 (fun H2 _ hP hD hS' => ?_)
  have hG : s.heap.size + 0 ≤ H2.size := Nat.le_trans hG hS'.1
  have hS := va_Str hS hS'
  have hP : va_P (dC, dI) xCl [(h0, .inr (1, [.int 0, .int (-1), .int 0, .ref h1])), (h1, .inr (0, [.int 1, .ref o0, .int 1]))] H2 := hP
  have hD : va_D A [(h0, .inr (1, [.int 0, .int (-1), .int 0, .ref h1])), (h1, .inr (0, [.int 1, .ref o0, .int 1]))] := hD
  refine lv_aload_n hx hb dJx35411_init_45d68_14 rfl (lv_at hl 0 rfl) ?_
  refine lv_aload_n hx hb dJx35411_init_45d68_15 rfl (lv_at hl 0 rfl) ?_
  refine va_get (D := (dC, dI)) (ci := 1) (v := .ref h1) (C := RJx35411) (T := TJx35411) (N := 4) hx hb hts in_Jx35411 hown hK hP 0 rfl rfl 3 (by decide) (hts _ q_247) (fun _ h9 => h9) rfl dJx35411_init_45d68_16 ?_
  refine va_get (D := (dC, dI)) (ci := 0) (v := .int 1) (C := RJx4a65c) (T := TJx4a65c) (N := 3) hx hb hts in_Jx4a65c hown hK hP 1 rfl rfl 0 (by decide) (hts _ q_250) (u_same (hts _ q_107)) rfl dJx35411_init_45d68_19 ?_
  refine va_put (D := (dC, dI)) (ci := 1) (v := .int 1) (ty := .int) (C := RJx35411) (T := TJx35411) (N := 4) hx hb hts in_Jx35411 tyJx35411 tyJx35411_ok nmJx35411 hown hK hP hD (va_Sre hS) 0 rfl rfl 2 (by decide) (hts _ q_251) (fun _ h9 => h9) rfl (by decide +kernel) rfl rfl (Nat.le_of_ble_eq_true rfl) dJx35411_init_45d68_22 (fun H3 _ hP hD hS' => ?_)
  have hG : s.heap.size + 0 ≤ H3.size := Nat.le_trans hG hS'.1
  have hS := va_Str hS hS'
  have hP : va_P (dC, dI) xCl [(h0, .inr (1, [.int 0, .int (-1), .int 1, .ref h1])), (h1, .inr (0, [.int 1, .ref o0, .int 1]))] H3 := hP
  have hD : va_D A [(h0, .inr (1, [.int 0, .int (-1), .int 1, .ref h1])), (h1, .inr (0, [.int 1, .ref o0, .int 1]))] := hD
  exact W.vret hx hb hr (fun t9 ht9 hW9 => ⟨⟨(), rfl, trivial, ⟨pq_mk (wc := [(h0, .inr (1, [.int 0, .int (-1), .int 1, .ref h1])), (h1, .inr (0, [.int 1, .ref o0, .int 1]))]) (tc := []) hP hD hK [0, 1] [] rfl rfl rfl rfl ht9 hW9, by rw [ht9]; exact Nat.le_trans (Nat.add_le_add_left (Nat.le_of_ble_eq_true rfl) _) hG⟩⟩, hS.F ht9⟩) hS.2.2 dJx35411_init_45d68_25

set_option maxHeartbeats 4000000 in
set_option maxRecDepth 100000 in
theorem k63_iterator (l : Launch) (hl9 : l.stackTraces = false) (dC : Nat → ClassId) (dI : Nat → Nat → Nat) (z : XZ) (h0 : Nat) (o0 : Nat) (sz : Nat) : Met l yJx4a65c_iterator_32c93 (.code yJx4a65c_iterator_32c93 cJx4a65c_iterator_32c93 1 (some (.object "java/util/Iterator")) :: wsL_law) ({ frames := 2, cells := 1, slots := 4, locals := 37 }) (va_Pc [.ref h0] (PC (dC, dI) [(h0, .inr (0, [.int 1, .ref o0, .int 1]))] [] sz z)) (va_Qr (fun (_ : Unit) => True) (fun (_ : Unit) (ra : Nat) (t : State) => ∃ (n0 : Nat), ra = n0 ∧ PG (dC, dI) [(h0, .inr (0, [.int 1, .ref o0, .int 1])), (n0, .inr (1, [.int 0, .int (-1), .int 1, .ref h0]))] [] (va_A [(h0, .inr (0, [.int 1, .ref o0, .int 1]))] sz) sz 1 t) (va_A [(h0, .inr (0, [.int 1, .ref o0, .int 1]))] sz)) 1 4 (va_A [(h0, .inr (0, [.int 1, .ref o0, .int 1]))] sz) := by
  refine Met.ofW (cc := cJx4a65c_iterator_32c93) (maxL := 1) (ret := (some (.object "java/util/Iterator"))) (by decide) rfl ?_
  intro p e s m args below meth c s₁ B hml hv
  obtain ⟨rfl, hsz, hP, hK, hD0, hX, hT⟩ := hv
  have hx := B.exec
  have hb := B.bytes
  have hr := B.returns
  have hts0 := atoms_spec (ws := .code yJx4a65c_iterator_32c93 cJx4a65c_iterator_32c93 1 (some (.object "java/util/Iterator")) :: wsL_law) B.pre
  have hts := xTail hts0
  have hown : s.vm.findClass RJx4a65c = some m.cls := findClass_of_methodNamed B.named
  have hlocks := B.notSynchronized
  subst hsz
  have hD := hD0.self (sz := s.heap.size)
  generalize hAe : va_A [(h0, .inr (0, [.int 1, .ref o0, .int 1]))] s.heap.size = A at hD hX ⊢
  have hA : ∀ q : Nat, s.heap.size ≤ q → A q := fun q h => by rw [← hAe]; exact Or.inr h
  have hS : va_S A s.heap s.heap [] := va_S.rf
  have hG : s.heap.size + 0 ≤ s.heap.size := Nat.le_refl _
  have hl := lv_entry ([.ref h0]) (n := 1) (Nat.le_of_ble_eq_true rfl)
  rw [lg_entry_eq]
  generalize (lg_sl ([.ref h0]) ++ List.replicate (1 - (lg_sl ([.ref h0])).length) Slot.unset).toArray = ls at hl ⊢
  have hl : lv_has ls 1 [(0, .ref h0)] := hl
  refine xa_new (ci := 1) (fs := [.int 0, .int 0, .int 0, .null]) (C := RJx35411) (T := TJx35411) (N := 4) hx hb hts in_Jx35411 tyJx35411 tyJx35411_ok hown (hts _ q_244) (hts _ q_245) (hts _ q_246) hK hP hD hS hA rfl nf_Jx35411 (Nat.le_of_ble_eq_true rfl) (Nat.le_of_ble_eq_true rfl) dJx4a65c_iterator_32c93_0 (fun a1 H2 hg8 hP hD hS => ?_)
  have hG : s.heap.size + 1 ≤ H2.size := by rw [hg8]; exact Nat.succ_le_succ hG
  have hP : va_P (dC, dI) xCl [(h0, .inr (0, [.int 1, .ref o0, .int 1])), (a1, .inr (1, [.int 0, .int 0, .int 0, .null]))] H2 := hP
  have hD : va_D A [(h0, .inr (0, [.int 1, .ref o0, .int 1])), (a1, .inr (1, [.int 0, .int 0, .int 0, .null]))] := hD
  refine W.widen (k := 1) (n := 4) (by decide) (by decide) ?_
  refine lv_dup hx hb dJx4a65c_iterator_32c93_3 rfl ?_
  refine lv_aload_n hx hb dJx4a65c_iterator_32c93_4 rfl (lv_at hl 0 rfl) ?_
  have hF3 := va_free (wc := [(a1, .inr (1, [.int 0, .int 0, .int 0, .null])), (h0, .inr (0, [.int 1, .ref o0, .int 1]))]) hD hS hA [1, 0] rfl
  refine va_callv (va_runI (As := [.ref h0]) (rest := [.ref a1]) ⟨hx, hb, hml, hown, hts⟩ (k62_init l hl9 dC dI z a1 h0 o0 H2.size) (cwI 1 hts (gIL q_252) rfl rfl rfl (hts _ q_246) (hts _ q_253) (hts _ q_254) rfl (by decide +kernel) ⟨Nat.le_of_ble_eq_true rfl, Nat.le_of_ble_eq_true rfl⟩) ⟨pc_blind, fun U hU hW => ⟨rfl, pc_mk hP hD hK hS hX hT [1, 0] [] rfl rfl rfl rfl hF3 hU hW⟩⟩ rfl rfl hl.1 rfl (lv_room (Nat.le_of_ble_eq_true rfl)) dJx4a65c_iterator_32c93_5 ⟨(Nat.le_of_ble_eq_true rfl), (Nat.le_of_ble_eq_true rfl)⟩) hS (fun q9 _ h9 => hF3 q9 h9) hF3 (fun u5 t5 H5 L5 ht5 hvm5 hw5 hB5 hz5 hk5 hS => ?_)
  obtain ⟨hP, hD, hK⟩ := pq_join (wr := []) (tr := []) (wz := [(a1, .inr (1, [.int 0, .int (-1), .int 1, .ref h0])), (h0, .inr (0, [.int 1, .ref o0, .int 1]))]) (tz := []) hP hD hK [1, 0] [] [] rfl rfl (by decide) (by decide) rfl hk5 hF3 hB5.1 ht5 hvm5 rfl rfl
  have hG : s.heap.size + 1 ≤ H5.size := Nat.le_trans hG hz5
  exact W.aret (v := .ref a1) hx hb hr (by first | exact Or.inl ⟨_, rfl⟩ | exact Or.inr ⟨_, rfl⟩) (Or.inr ⟨_, rfl⟩) (fun t9 ht9 hW9 => ⟨⟨(), a1, rfl, trivial, ⟨a1, rfl, ⟨pq_mk (wc := [(h0, .inr (0, [.int 1, .ref o0, .int 1])), (a1, .inr (1, [.int 0, .int (-1), .int 1, .ref h0]))]) (tc := []) hP hD hK [1, 0] [] rfl rfl rfl rfl ht9 hW9, by rw [ht9]; exact Nat.le_trans (Nat.add_le_add_left (Nat.le_of_ble_eq_true rfl) _) hG⟩⟩⟩, hS.F ht9⟩) hS.2.2 dJx4a65c_iterator_32c93_8

set_option maxHeartbeats 4000000 in
set_option maxRecDepth 100000 in
theorem k64_hasNext (l : Launch) (hl9 : l.stackTraces = false) (dC : Nat → ClassId) (dI : Nat → Nat → Nat) (z : XZ) (h0 h1 : Nat) (o0 : Nat) (sz : Nat) : Met l yJx35411_hasNext_aae02 (.code yJx35411_hasNext_aae02 cJx35411_hasNext_aae02 1 (some .boolean) :: wsL_law) ({ frames := 0, cells := 0, slots := 0, locals := 0 }) (va_Pc [.ref h0] (PC (dC, dI) [(h0, .inr (1, [.int 0, .int (-1), .int 1, .ref h1])), (h1, .inr (0, [.int 1, .ref o0, .int 1]))] [] sz z)) (va_Qi (fun (r : Int32) (_ : Unit) => r = 1) (fun (_ : Unit) (t : State) => PG (dC, dI) [(h0, .inr (1, [.int 0, .int (-1), .int 1, .ref h1])), (h1, .inr (0, [.int 1, .ref o0, .int 1]))] [] (va_A [(h0, .inr (1, [.int 0, .int (-1), .int 1, .ref h1])), (h1, .inr (0, [.int 1, .ref o0, .int 1]))] sz) sz 0 t) (va_A [(h0, .inr (1, [.int 0, .int (-1), .int 1, .ref h1])), (h1, .inr (0, [.int 1, .ref o0, .int 1]))] sz)) 0 0 (va_A [(h0, .inr (1, [.int 0, .int (-1), .int 1, .ref h1])), (h1, .inr (0, [.int 1, .ref o0, .int 1]))] sz) := by
  refine Met.ofW (cc := cJx35411_hasNext_aae02) (maxL := 1) (ret := (some .boolean)) (by decide) rfl ?_
  intro p e s m args below meth c s₁ B hml hv
  obtain ⟨rfl, hsz, hP, hK, hD0, hX, hT⟩ := hv
  have hx := B.exec
  have hb := B.bytes
  have hr := B.returns
  have hts0 := atoms_spec (ws := .code yJx35411_hasNext_aae02 cJx35411_hasNext_aae02 1 (some .boolean) :: wsL_law) B.pre
  have hts := xTail hts0
  have hown : s.vm.findClass RJx35411 = some m.cls := findClass_of_methodNamed B.named
  have hlocks := B.notSynchronized
  subst hsz
  have hD := hD0.self (sz := s.heap.size)
  generalize hAe : va_A [(h0, .inr (1, [.int 0, .int (-1), .int 1, .ref h1])), (h1, .inr (0, [.int 1, .ref o0, .int 1]))] s.heap.size = A at hD hX ⊢
  have hA : ∀ q : Nat, s.heap.size ≤ q → A q := fun q h => by rw [← hAe]; exact Or.inr h
  have hS : va_S A s.heap s.heap [] := va_S.rf
  have hG : s.heap.size + 0 ≤ s.heap.size := Nat.le_refl _
  have hl := lv_entry ([.ref h0]) (n := 1) (Nat.le_of_ble_eq_true rfl)
  rw [lg_entry_eq]
  generalize (lg_sl ([.ref h0]) ++ List.replicate (1 - (lg_sl ([.ref h0])).length) Slot.unset).toArray = ls at hl ⊢
  have hl : lv_has ls 1 [(0, .ref h0)] := hl
  refine lv_aload_n hx hb dJx35411_hasNext_aae02_0 rfl (lv_at hl 0 rfl) ?_
  refine va_get (D := (dC, dI)) (ci := 1) (v := .int 0) (C := RJx35411) (T := TJx35411) (N := 4) hx hb hts in_Jx35411 hown hK hP 0 rfl rfl 0 (by decide) (hts _ q_259) (fun _ h9 => h9) rfl dJx35411_hasNext_aae02_1 ?_
  refine lv_aload_n hx hb dJx35411_hasNext_aae02_4 rfl (lv_at hl 0 rfl) ?_
  refine va_get (D := (dC, dI)) (ci := 1) (v := .ref h1) (C := RJx35411) (T := TJx35411) (N := 4) hx hb hts in_Jx35411 hown hK hP 0 rfl rfl 3 (by decide) (hts _ q_247) (fun _ h9 => h9) rfl dJx35411_hasNext_aae02_5 ?_
  refine va_getN (D := (dC, dI)) (ci := 0) (v := .int 1) (C := RJx4a65c) (T := TJx4a65c) (N := 3) hx hb hts in_Jx4a65c hown hK hP 1 rfl rfl 2 (by decide) (va_Nw.use rfl hT.2.2.2.2.1) (fun _ h9 => h9) rfl dJx35411_hasNext_aae02_8 ?_
  refine lv_icmp_eq (tgt := 18) hx hb dJx35411_hasNext_aae02_11 (by decide) (fun cz => absurd cz (by decide)) (fun _ => ?_)
  refine lv_iconst (v := 1) hx hb dJx35411_hasNext_aae02_14 (by decide) ?_
  refine lv_goto (tgt := 19) hx hb dJx35411_hasNext_aae02_15 (by decide) ?_
  exact W.zret (v := 1) (ty := .boolean) hx hb hr rfl (fun t9 ht9 hW9 => ⟨⟨1, (), rfl, rfl, ⟨pq_mk (wc := [(h0, .inr (1, [.int 0, .int (-1), .int 1, .ref h1])), (h1, .inr (0, [.int 1, .ref o0, .int 1]))]) (tc := []) hP hD hK [0, 1] [] rfl rfl rfl rfl ht9 hW9, by rw [ht9]; exact Nat.le_trans (Nat.add_le_add_left (Nat.le_of_ble_eq_true rfl) _) hG⟩⟩, hS.F ht9⟩) hS.2.2 dJx35411_hasNext_aae02_19

set_option maxHeartbeats 4000000 in
set_option maxRecDepth 100000 in
theorem k65_checkForComodification (l : Launch) (hl9 : l.stackTraces = false) (dC : Nat → ClassId) (dI : Nat → Nat → Nat) (z : XZ) (h0 h1 : Nat) (o0 : Nat) (sz : Nat) : Met l yJx35411_checkForComodification_da8c8 (.code yJx35411_checkForComodification_da8c8 cJx35411_checkForComodification_da8c8 1 none :: wsL_law) ({ frames := 0, cells := 0, slots := 0, locals := 0 }) (va_Pc [.ref h0] (PC (dC, dI) [(h0, .inr (1, [.int 0, .int (-1), .int 1, .ref h1])), (h1, .inr (0, [.int 1, .ref o0, .int 1]))] [] sz z)) (va_Qv (fun (_ : Unit) => True) (fun (_ : Unit) (t : State) => PG (dC, dI) [(h0, .inr (1, [.int 0, .int (-1), .int 1, .ref h1])), (h1, .inr (0, [.int 1, .ref o0, .int 1]))] [] (va_A [(h0, .inr (1, [.int 0, .int (-1), .int 1, .ref h1])), (h1, .inr (0, [.int 1, .ref o0, .int 1]))] sz) sz 0 t) (va_A [(h0, .inr (1, [.int 0, .int (-1), .int 1, .ref h1])), (h1, .inr (0, [.int 1, .ref o0, .int 1]))] sz)) 0 0 (va_A [(h0, .inr (1, [.int 0, .int (-1), .int 1, .ref h1])), (h1, .inr (0, [.int 1, .ref o0, .int 1]))] sz) := by
  refine Met.ofW (cc := cJx35411_checkForComodification_da8c8) (maxL := 1) (ret := none) (by decide) rfl ?_
  intro p e s m args below meth c s₁ B hml hv
  obtain ⟨rfl, hsz, hP, hK, hD0, hX, hT⟩ := hv
  have hx := B.exec
  have hb := B.bytes
  have hr := B.returns
  have hts0 := atoms_spec (ws := .code yJx35411_checkForComodification_da8c8 cJx35411_checkForComodification_da8c8 1 none :: wsL_law) B.pre
  have hts := xTail hts0
  have hown : s.vm.findClass RJx35411 = some m.cls := findClass_of_methodNamed B.named
  have hlocks := B.notSynchronized
  subst hsz
  have hD := hD0.self (sz := s.heap.size)
  generalize hAe : va_A [(h0, .inr (1, [.int 0, .int (-1), .int 1, .ref h1])), (h1, .inr (0, [.int 1, .ref o0, .int 1]))] s.heap.size = A at hD hX ⊢
  have hA : ∀ q : Nat, s.heap.size ≤ q → A q := fun q h => by rw [← hAe]; exact Or.inr h
  have hS : va_S A s.heap s.heap [] := va_S.rf
  have hG : s.heap.size + 0 ≤ s.heap.size := Nat.le_refl _
  have hl := lv_entry ([.ref h0]) (n := 1) (Nat.le_of_ble_eq_true rfl)
  rw [lg_entry_eq]
  generalize (lg_sl ([.ref h0]) ++ List.replicate (1 - (lg_sl ([.ref h0])).length) Slot.unset).toArray = ls at hl ⊢
  have hl : lv_has ls 1 [(0, .ref h0)] := hl
  refine lv_aload_n hx hb dJx35411_checkForComodification_da8c8_0 rfl (lv_at hl 0 rfl) ?_
  refine va_get (D := (dC, dI)) (ci := 1) (v := .ref h1) (C := RJx35411) (T := TJx35411) (N := 4) hx hb hts in_Jx35411 hown hK hP 0 rfl rfl 3 (by decide) (hts _ q_247) (fun _ h9 => h9) rfl dJx35411_checkForComodification_da8c8_1 ?_
  refine va_get (D := (dC, dI)) (ci := 0) (v := .int 1) (C := RJx4a65c) (T := TJx4a65c) (N := 3) hx hb hts in_Jx4a65c hown hK hP 1 rfl rfl 0 (by decide) (hts _ q_250) (u_same (hts _ q_107)) rfl dJx35411_checkForComodification_da8c8_4 ?_
  refine lv_aload_n hx hb dJx35411_checkForComodification_da8c8_7 rfl (lv_at hl 0 rfl) ?_
  refine va_get (D := (dC, dI)) (ci := 1) (v := .int 1) (C := RJx35411) (T := TJx35411) (N := 4) hx hb hts in_Jx35411 hown hK hP 0 rfl rfl 2 (by decide) (hts _ q_251) (fun _ h9 => h9) rfl dJx35411_checkForComodification_da8c8_8 ?_
  refine lv_icmp_eq (tgt := 22) hx hb dJx35411_checkForComodification_da8c8_11 (by decide) (fun _ => ?_) (fun cz => absurd (by decide) cz)
  exact W.vret hx hb hr (fun t9 ht9 hW9 => ⟨⟨(), rfl, trivial, ⟨pq_mk (wc := [(h0, .inr (1, [.int 0, .int (-1), .int 1, .ref h1])), (h1, .inr (0, [.int 1, .ref o0, .int 1]))]) (tc := []) hP hD hK [0, 1] [] rfl rfl rfl rfl ht9 hW9, by rw [ht9]; exact Nat.le_trans (Nat.add_le_add_left (Nat.le_of_ble_eq_true rfl) _) hG⟩⟩, hS.F ht9⟩) hS.2.2 dJx35411_checkForComodification_da8c8_22

set_option maxHeartbeats 4000000 in
set_option maxRecDepth 100000 in
theorem k66_next (l : Launch) (hl9 : l.stackTraces = false) (dC : Nat → ClassId) (dI : Nat → Nat → Nat) (z : XZ) (h0 h1 h2 : Nat) (o0 : Nat) (sz : Nat) (kc0 : ClassId) : Met l yJx35411_next_0502b (.code yJx35411_next_0502b cJx35411_next_0502b 3 (some (.object "java/lang/Object")) :: wsL_law) ({ frames := 1, cells := 0, slots := 0, locals := 20 }) (va_Pc [.ref h0] (PC (dC, dI) [(h0, .inr (1, [.int 0, .int (-1), .int 1, .ref h1])), (h1, .inr (0, [.int 1, .ref h2, .int 1])), (h2, .inl (kc0, 10, .inr (.inr (.inr (.inr (va_up (fun _ => none) 0 (some o0)))))))] [(kc0, .object "java/lang/Object")] sz z)) (va_Qr (fun (_ : Unit) => True) (fun (_ : Unit) (ra : Nat) (t : State) => ra = o0 ∧ PG (dC, dI) [(h0, .inr (1, [.int 1, .int 0, .int 1, .ref h1])), (h1, .inr (0, [.int 1, .ref h2, .int 1])), (h2, .inl (kc0, 10, .inr (.inr (.inr (.inr (va_up (fun _ => none) 0 (some o0)))))))] [(kc0, .object "java/lang/Object")] (va_A [(h0, .inr (1, [.int 0, .int (-1), .int 1, .ref h1])), (h1, .inr (0, [.int 1, .ref h2, .int 1])), (h2, .inl (kc0, 10, .inr (.inr (.inr (.inr (va_up (fun _ => none) 0 (some o0)))))))] sz) sz 0 t) (va_A [(h0, .inr (1, [.int 0, .int (-1), .int 1, .ref h1])), (h1, .inr (0, [.int 1, .ref h2, .int 1])), (h2, .inl (kc0, 10, .inr (.inr (.inr (.inr (va_up (fun _ => none) 0 (some o0)))))))] sz)) 0 0 (va_A [(h0, .inr (1, [.int 0, .int (-1), .int 1, .ref h1])), (h1, .inr (0, [.int 1, .ref h2, .int 1])), (h2, .inl (kc0, 10, .inr (.inr (.inr (.inr (va_up (fun _ => none) 0 (some o0)))))))] sz) := by
  refine Met.ofW (cc := cJx35411_next_0502b) (maxL := 3) (ret := (some (.object "java/lang/Object"))) (by decide) rfl ?_
  intro p e s m args below meth c s₁ B hml hv
  obtain ⟨rfl, hsz, hP, hK, hD0, hX, hT⟩ := hv
  have hx := B.exec
  have hb := B.bytes
  have hr := B.returns
  have hts0 := atoms_spec (ws := .code yJx35411_next_0502b cJx35411_next_0502b 3 (some (.object "java/lang/Object")) :: wsL_law) B.pre
  have hts := xTail hts0
  have hown : s.vm.findClass RJx35411 = some m.cls := findClass_of_methodNamed B.named
  have hlocks := B.notSynchronized
  subst hsz
  have hD := hD0.self (sz := s.heap.size)
  generalize hAe : va_A [(h0, .inr (1, [.int 0, .int (-1), .int 1, .ref h1])), (h1, .inr (0, [.int 1, .ref h2, .int 1])), (h2, .inl (kc0, 10, .inr (.inr (.inr (.inr (va_up (fun _ => none) 0 (some o0)))))))] s.heap.size = A at hD hX ⊢
  have hA : ∀ q : Nat, s.heap.size ≤ q → A q := fun q h => by rw [← hAe]; exact Or.inr h
  have hS : va_S A s.heap s.heap [] := va_S.rf
  have hG : s.heap.size + 0 ≤ s.heap.size := Nat.le_refl _
  have hl := lv_entry ([.ref h0]) (n := 3) (Nat.le_of_ble_eq_true rfl)
  rw [lg_entry_eq]
  generalize (lg_sl ([.ref h0]) ++ List.replicate (3 - (lg_sl ([.ref h0])).length) Slot.unset).toArray = ls at hl ⊢
  have hl : lv_has ls 3 [(0, .ref h0)] := hl
  refine lv_aload_n hx hb dJx35411_next_0502b_0 rfl (lv_at hl 0 rfl) ?_
  have hF1 := va_free (wc := [(h0, .inr (1, [.int 0, .int (-1), .int 1, .ref h1])), (h1, .inr (0, [.int 1, .ref h2, .int 1]))]) hD hS hA [0, 1] rfl
  refine va_callv (va_runV (As := []) (rest := []) ⟨hx, hb, hml, hown, hts⟩ (k65_checkForComodification l hl9 dC dI z h0 h1 h2 s.heap.size) (cwV 0 hts (gV q_303 q_304 q_305 q_246 q_302) rfl rfl rfl (by decide +kernel) ⟨Nat.le_of_ble_eq_true rfl, Nat.le_of_ble_eq_true rfl⟩) ⟨pc_blind, va_recv hK hP (ci := 1) (q0 := 0) rfl rfl, fun U hU hW => ⟨rfl, pc_mk hP hD hK hS hX hT [0, 1] [] rfl rfl rfl rfl hF1 hU hW⟩⟩ rfl rfl hl.1 rfl (lv_room (Nat.le_of_ble_eq_true rfl)) dJx35411_next_0502b_1 ⟨(Nat.le_of_ble_eq_true rfl), (Nat.le_of_ble_eq_true rfl)⟩) hS (fun q9 _ h9 => hF1 q9 h9) hF1 (fun u3 t3 H3 L3 ht3 hvm3 hw3 hB3 hz3 hk3 hS => ?_)
  obtain ⟨hP, hD, hK⟩ := pq_join (wr := [(h2, .inl (kc0, 10, .inr (.inr (.inr (.inr (va_up (fun _ => none) 0 (some o0)))))))]) (tr := [(kc0, .object "java/lang/Object")]) (wz := [(h2, .inl (kc0, 10, .inr (.inr (.inr (.inr (va_up (fun _ => none) 0 (some o0))))))), (h0, .inr (1, [.int 0, .int (-1), .int 1, .ref h1])), (h1, .inr (0, [.int 1, .ref h2, .int 1]))]) (tz := [(kc0, .object "java/lang/Object")]) hP hD hK [0, 1] [2] [0] rfl rfl (by decide) (by decide) rfl hk3 hF1 hB3.1 ht3 hvm3 rfl rfl
  have hG : s.heap.size + 0 ≤ H3.size := Nat.le_trans hG hz3
  refine lv_aload_n hx hb dJx35411_next_0502b_4 rfl (lv_at hl 0 rfl) ?_
  refine va_get (D := (dC, dI)) (ci := 1) (v := .int 0) (C := RJx35411) (T := TJx35411) (N := 4) hx hb hts in_Jx35411 hown hK hP 1 rfl rfl 0 (by decide) (hts _ q_259) (fun _ h9 => h9) rfl dJx35411_next_0502b_5 ?_
  refine lv_istore_n (lv' := [(1, .int 0), (0, .ref h0)]) hx hb dJx35411_next_0502b_8 rfl hl (by decide) rfl (fun ls hl => ?_)
  refine lv_iload_n hx hb dJx35411_next_0502b_9 rfl (lv_at hl 0 rfl) ?_
  refine lv_aload_n hx hb dJx35411_next_0502b_10 rfl (lv_at hl 1 rfl) ?_
  refine va_get (D := (dC, dI)) (ci := 1) (v := .ref h1) (C := RJx35411) (T := TJx35411) (N := 4) hx hb hts in_Jx35411 hown hK hP 1 rfl rfl 3 (by decide) (hts _ q_247) (fun _ h9 => h9) rfl dJx35411_next_0502b_11 ?_
  refine va_getN (D := (dC, dI)) (ci := 0) (v := .int 1) (C := RJx4a65c) (T := TJx4a65c) (N := 3) hx hb hts in_Jx4a65c hown hK hP 2 rfl rfl 2 (by decide) (va_Nw.use rfl hT.2.2.2.2.1) (fun _ h9 => h9) rfl dJx35411_next_0502b_14 ?_
  refine lv_icmp_lt (tgt := 28) hx hb dJx35411_next_0502b_17 (by decide) (fun _ => ?_) (fun cz => absurd (by decide) cz)
  refine lv_aload_n hx hb dJx35411_next_0502b_28 rfl (lv_at hl 1 rfl) ?_
  refine va_get (D := (dC, dI)) (ci := 1) (v := .ref h1) (C := RJx35411) (T := TJx35411) (N := 4) hx hb hts in_Jx35411 hown hK hP 1 rfl rfl 3 (by decide) (hts _ q_247) (fun _ h9 => h9) rfl dJx35411_next_0502b_29 ?_
  refine va_get (D := (dC, dI)) (ci := 0) (v := .ref h2) (C := RJx4a65c) (T := TJx4a65c) (N := 3) hx hb hts in_Jx4a65c hown hK hP 2 rfl rfl 1 (by decide) (hts _ q_306) (fun _ h9 => h9) rfl dJx35411_next_0502b_32 ?_
  refine lv_astore_n (lv' := [(2, .ref h2), (1, .int 0), (0, .ref h0)]) hx hb dJx35411_next_0502b_35 rfl hl (by decide) rfl (fun ls hl => ?_)
  refine lv_iload_n hx hb dJx35411_next_0502b_36 rfl (lv_at hl 1 rfl) ?_
  refine lv_aload_n hx hb dJx35411_next_0502b_37 rfl (lv_at hl 0 rfl) ?_
  refine va_alen hx hb hK hP 0 0 rfl rfl (v := 10) rfl dJx35411_next_0502b_38 ?_
  refine lv_icmp_lt (tgt := 50) hx hb dJx35411_next_0502b_39 (by decide) (fun _ => ?_) (fun cz => absurd (by decide) cz)
  refine lv_aload_n hx hb dJx35411_next_0502b_50 rfl (lv_at hl 2 rfl) ?_
  refine lv_iload_n hx hb dJx35411_next_0502b_51 rfl (lv_at hl 1 rfl) ?_
  refine lv_iconst (v := 1) hx hb dJx35411_next_0502b_52 (by decide) ?_
  refine lv_iadd hx hb dJx35411_next_0502b_53 ?_
  refine lv_topi (fun y5 ey5 => ?_)
  obtain rfl : y5 = 1 := ey5.trans (by decide)
  refine va_put (D := (dC, dI)) (ci := 1) (v := .int 1) (ty := .int) (C := RJx35411) (T := TJx35411) (N := 4) hx hb hts in_Jx35411 tyJx35411 tyJx35411_ok nmJx35411 hown hK hP hD (va_Sre hS) 1 rfl rfl 0 (by decide) (hts _ q_259) (fun _ h9 => h9) rfl (by decide +kernel) rfl rfl (Nat.le_of_ble_eq_true rfl) dJx35411_next_0502b_54 (fun H6 _ hP hD hS' => ?_)
  have hG : s.heap.size + 0 ≤ H6.size := Nat.le_trans hG hS'.1
  have hS := va_Str hS hS'
  have hP : va_P (dC, dI) xCl [(h2, .inl (kc0, 10, .inr (.inr (.inr (.inr (va_up (fun _ => none) 0 (some o0))))))), (h0, .inr (1, [.int 1, .int (-1), .int 1, .ref h1])), (h1, .inr (0, [.int 1, .ref h2, .int 1]))] H6 := hP
  have hD : va_D A [(h2, .inl (kc0, 10, .inr (.inr (.inr (.inr (va_up (fun _ => none) 0 (some o0))))))), (h0, .inr (1, [.int 1, .int (-1), .int 1, .ref h1])), (h1, .inr (0, [.int 1, .ref h2, .int 1]))] := hD
  refine lv_aload_n hx hb dJx35411_next_0502b_57 rfl (lv_at hl 0 rfl) ?_
  refine lv_aload_n hx hb dJx35411_next_0502b_58 rfl (lv_at hl 2 rfl) ?_
  refine lv_iload_n hx hb dJx35411_next_0502b_59 rfl (lv_at hl 1 rfl) ?_
  refine lv_dup_x1 hx hb dJx35411_next_0502b_60 rfl rfl ?_
  refine va_put (D := (dC, dI)) (ci := 1) (v := .int 0) (ty := .int) (C := RJx35411) (T := TJx35411) (N := 4) hx hb hts in_Jx35411 tyJx35411 tyJx35411_ok nmJx35411 hown hK hP hD (va_Sre hS) 1 rfl rfl 1 (by decide) (hts _ q_249) (fun _ h9 => h9) rfl (by decide +kernel) rfl rfl (Nat.le_of_ble_eq_true rfl) dJx35411_next_0502b_61 (fun H7 _ hP hD hS' => ?_)
  have hG : s.heap.size + 0 ≤ H7.size := Nat.le_trans hG hS'.1
  have hS := va_Str hS hS'
  have hP : va_P (dC, dI) xCl [(h2, .inl (kc0, 10, .inr (.inr (.inr (.inr (va_up (fun _ => none) 0 (some o0))))))), (h0, .inr (1, [.int 1, .int 0, .int 1, .ref h1])), (h1, .inr (0, [.int 1, .ref h2, .int 1]))] H7 := hP
  have hD : va_D A [(h2, .inl (kc0, 10, .inr (.inr (.inr (.inr (va_up (fun _ => none) 0 (some o0))))))), (h0, .inr (1, [.int 1, .int 0, .int 1, .ref h1])), (h1, .inr (0, [.int 1, .ref h2, .int 1]))] := hD
  refine va_aldq hx hb hK hP 0 0 rfl rfl (i := 0) (by unfold vp_in; decide) dJx35411_next_0502b_64 ?_
  refine W.eq (g2 := F0 m 65 ls [.ref o0]) rfl ?_
  exact W.aret (v := .ref o0) hx hb hr (by first | exact Or.inl ⟨_, rfl⟩ | exact Or.inr ⟨_, rfl⟩) (Or.inr ⟨_, rfl⟩) (fun t9 ht9 hW9 => ⟨⟨(), o0, rfl, trivial, ⟨rfl, ⟨pq_mk (wc := [(h0, .inr (1, [.int 1, .int 0, .int 1, .ref h1])), (h1, .inr (0, [.int 1, .ref h2, .int 1])), (h2, .inl (kc0, 10, .inr (.inr (.inr (.inr (va_up (fun _ => none) 0 (some o0)))))))]) (tc := [(kc0, .object "java/lang/Object")]) hP hD hK [1, 2, 0] [0] rfl rfl rfl rfl ht9 hW9, by rw [ht9]; exact Nat.le_trans (Nat.add_le_add_left (Nat.le_of_ble_eq_true rfl) _) hG⟩⟩⟩, hS.F ht9⟩) hS.2.2 dJx35411_next_0502b_65

set_option maxHeartbeats 4000000 in
set_option maxRecDepth 100000 in
theorem k67_hasNext (l : Launch) (hl9 : l.stackTraces = false) (dC : Nat → ClassId) (dI : Nat → Nat → Nat) (z : XZ) (h0 h1 : Nat) (o0 : Nat) (sz : Nat) : Met l yJx35411_hasNext_aae02 (.code yJx35411_hasNext_aae02 cJx35411_hasNext_aae02 1 (some .boolean) :: wsL_law) ({ frames := 0, cells := 0, slots := 0, locals := 0 }) (va_Pc [.ref h0] (PC (dC, dI) [(h0, .inr (1, [.int 1, .int 0, .int 1, .ref h1])), (h1, .inr (0, [.int 1, .ref o0, .int 1]))] [] sz z)) (va_Qi (fun (r : Int32) (_ : Unit) => r = 0) (fun (_ : Unit) (t : State) => PG (dC, dI) [(h0, .inr (1, [.int 1, .int 0, .int 1, .ref h1])), (h1, .inr (0, [.int 1, .ref o0, .int 1]))] [] (va_A [(h0, .inr (1, [.int 1, .int 0, .int 1, .ref h1])), (h1, .inr (0, [.int 1, .ref o0, .int 1]))] sz) sz 0 t) (va_A [(h0, .inr (1, [.int 1, .int 0, .int 1, .ref h1])), (h1, .inr (0, [.int 1, .ref o0, .int 1]))] sz)) 0 0 (va_A [(h0, .inr (1, [.int 1, .int 0, .int 1, .ref h1])), (h1, .inr (0, [.int 1, .ref o0, .int 1]))] sz) := by
  refine Met.ofW (cc := cJx35411_hasNext_aae02) (maxL := 1) (ret := (some .boolean)) (by decide) rfl ?_
  intro p e s m args below meth c s₁ B hml hv
  obtain ⟨rfl, hsz, hP, hK, hD0, hX, hT⟩ := hv
  have hx := B.exec
  have hb := B.bytes
  have hr := B.returns
  have hts0 := atoms_spec (ws := .code yJx35411_hasNext_aae02 cJx35411_hasNext_aae02 1 (some .boolean) :: wsL_law) B.pre
  have hts := xTail hts0
  have hown : s.vm.findClass RJx35411 = some m.cls := findClass_of_methodNamed B.named
  have hlocks := B.notSynchronized
  subst hsz
  have hD := hD0.self (sz := s.heap.size)
  generalize hAe : va_A [(h0, .inr (1, [.int 1, .int 0, .int 1, .ref h1])), (h1, .inr (0, [.int 1, .ref o0, .int 1]))] s.heap.size = A at hD hX ⊢
  have hA : ∀ q : Nat, s.heap.size ≤ q → A q := fun q h => by rw [← hAe]; exact Or.inr h
  have hS : va_S A s.heap s.heap [] := va_S.rf
  have hG : s.heap.size + 0 ≤ s.heap.size := Nat.le_refl _
  have hl := lv_entry ([.ref h0]) (n := 1) (Nat.le_of_ble_eq_true rfl)
  rw [lg_entry_eq]
  generalize (lg_sl ([.ref h0]) ++ List.replicate (1 - (lg_sl ([.ref h0])).length) Slot.unset).toArray = ls at hl ⊢
  have hl : lv_has ls 1 [(0, .ref h0)] := hl
  refine lv_aload_n hx hb dJx35411_hasNext_aae02_0 rfl (lv_at hl 0 rfl) ?_
  refine va_get (D := (dC, dI)) (ci := 1) (v := .int 1) (C := RJx35411) (T := TJx35411) (N := 4) hx hb hts in_Jx35411 hown hK hP 0 rfl rfl 0 (by decide) (hts _ q_259) (fun _ h9 => h9) rfl dJx35411_hasNext_aae02_1 ?_
  refine lv_aload_n hx hb dJx35411_hasNext_aae02_4 rfl (lv_at hl 0 rfl) ?_
  refine va_get (D := (dC, dI)) (ci := 1) (v := .ref h1) (C := RJx35411) (T := TJx35411) (N := 4) hx hb hts in_Jx35411 hown hK hP 0 rfl rfl 3 (by decide) (hts _ q_247) (fun _ h9 => h9) rfl dJx35411_hasNext_aae02_5 ?_
  refine va_getN (D := (dC, dI)) (ci := 0) (v := .int 1) (C := RJx4a65c) (T := TJx4a65c) (N := 3) hx hb hts in_Jx4a65c hown hK hP 1 rfl rfl 2 (by decide) (va_Nw.use rfl hT.2.2.2.2.1) (fun _ h9 => h9) rfl dJx35411_hasNext_aae02_8 ?_
  refine lv_icmp_eq (tgt := 18) hx hb dJx35411_hasNext_aae02_11 (by decide) (fun _ => ?_) (fun cz => absurd (by decide) cz)
  refine lv_iconst (v := 0) hx hb dJx35411_hasNext_aae02_18 (by decide) ?_
  exact W.zret (v := 0) (ty := .boolean) hx hb hr rfl (fun t9 ht9 hW9 => ⟨⟨0, (), rfl, rfl, ⟨pq_mk (wc := [(h0, .inr (1, [.int 1, .int 0, .int 1, .ref h1])), (h1, .inr (0, [.int 1, .ref o0, .int 1]))]) (tc := []) hP hD hK [0, 1] [] rfl rfl rfl rfl ht9 hW9, by rw [ht9]; exact Nat.le_trans (Nat.add_le_add_left (Nat.le_of_ble_eq_true rfl) _) hG⟩⟩, hS.F ht9⟩) hS.2.2 dJx35411_hasNext_aae02_19

set_option maxHeartbeats 4000000 in
set_option maxRecDepth 100000 in
theorem k68_valuesNow (l : Launch) (hl9 : l.stackTraces = false) (dC : Nat → ClassId) (dI : Nat → Nat → Nat) (z : XZ) (h0 h1 h2 h3 : Nat) (o0 o1 o2 : Nat) (sz : Nat) (kc0 : ClassId) : Met l yX9_valuesNow (.code yX9_valuesNow cX9_valuesNow 3 (some (.array .char)) :: wsL_law) ({ frames := 3, cells := 1, slots := 40, locals := 64 }) (va_Pc [.ref h0] (PC (dC, dI) [(h0, .inr (8, [.int 0, .ref h1, .ref o0, .ref o1, .ref o2, .int 0])), (h1, .inr (0, [.int 1, .ref h2, .int 1])), (h2, .inl (kc0, 10, .inr (.inr (.inr (.inr (va_up (fun _ => none) 0 (some h3))))))), (h3, .inr (7, [.int 105, .int 120, .int 0, .int (-1), .int 0, .int (-1)]))] [(kc0, .object "java/lang/Object")] sz z)) (va_Qr (fun (_ : Unit) => True) (fun (_ : Unit) (ra : Nat) (t : State) => ∃ (n0 : Nat), ∃ (m0 : ClassId), ra = n0 ∧ PG (dC, dI) [(h0, .inr (8, [.int 0, .ref h1, .ref o0, .ref o1, .ref o2, .int 0])), (h1, .inr (0, [.int 1, .ref h2, .int 1])), (h2, .inl (kc0, 10, .inr (.inr (.inr (.inr (va_up (fun _ => none) 0 (some h3))))))), (h3, .inr (7, [.int 105, .int 120, .int 0, .int (-1), .int 0, .int (-1)])), (n0, .inl (m0, 40, .inl (upd (fun _ => 0) 0 120)))] [(kc0, .object "java/lang/Object"), (m0, .char)] (va_A [(h0, .inr (8, [.int 0, .ref h1, .ref o0, .ref o1, .ref o2, .int 0])), (h1, .inr (0, [.int 1, .ref h2, .int 1])), (h2, .inl (kc0, 10, .inr (.inr (.inr (.inr (va_up (fun _ => none) 0 (some h3))))))), (h3, .inr (7, [.int 105, .int 120, .int 0, .int (-1), .int 0, .int (-1)]))] sz) sz 1 t) (va_A [(h0, .inr (8, [.int 0, .ref h1, .ref o0, .ref o1, .ref o2, .int 0])), (h1, .inr (0, [.int 1, .ref h2, .int 1])), (h2, .inl (kc0, 10, .inr (.inr (.inr (.inr (va_up (fun _ => none) 0 (some h3))))))), (h3, .inr (7, [.int 105, .int 120, .int 0, .int (-1), .int 0, .int (-1)]))] sz)) 1 40 (va_A [(h0, .inr (8, [.int 0, .ref h1, .ref o0, .ref o1, .ref o2, .int 0])), (h1, .inr (0, [.int 1, .ref h2, .int 1])), (h2, .inl (kc0, 10, .inr (.inr (.inr (.inr (va_up (fun _ => none) 0 (some h3))))))), (h3, .inr (7, [.int 105, .int 120, .int 0, .int (-1), .int 0, .int (-1)]))] sz) := by
  refine Met.ofW (cc := cX9_valuesNow) (maxL := 3) (ret := (some (.array .char))) (by decide) rfl ?_
  intro p e s m args below meth c s₁ B hml hv
  obtain ⟨rfl, hsz, hP, hK, hD0, hX, hT⟩ := hv
  have hx := B.exec
  have hb := B.bytes
  have hr := B.returns
  have hts0 := atoms_spec (ws := .code yX9_valuesNow cX9_valuesNow 3 (some (.array .char)) :: wsL_law) B.pre
  have hts := xTail hts0
  have hown : s.vm.findClass RX9 = some m.cls := findClass_of_methodNamed B.named
  have hlocks := B.notSynchronized
  subst hsz
  have hD := hD0.self (sz := s.heap.size)
  generalize hAe : va_A [(h0, .inr (8, [.int 0, .ref h1, .ref o0, .ref o1, .ref o2, .int 0])), (h1, .inr (0, [.int 1, .ref h2, .int 1])), (h2, .inl (kc0, 10, .inr (.inr (.inr (.inr (va_up (fun _ => none) 0 (some h3))))))), (h3, .inr (7, [.int 105, .int 120, .int 0, .int (-1), .int 0, .int (-1)]))] s.heap.size = A at hD hX ⊢
  have hA : ∀ q : Nat, s.heap.size ≤ q → A q := fun q h => by rw [← hAe]; exact Or.inr h
  have hS : va_S A s.heap s.heap [] := va_S.rf
  have hG : s.heap.size + 0 ≤ s.heap.size := Nat.le_refl _
  have hl := lv_entry ([.ref h0]) (n := 3) (Nat.le_of_ble_eq_true rfl)
  rw [lg_entry_eq]
  generalize (lg_sl ([.ref h0]) ++ List.replicate (3 - (lg_sl ([.ref h0])).length) Slot.unset).toArray = ls at hl ⊢
  have hl : lv_has ls 3 [(0, .ref h0)] := hl
  refine lv_bipush (v := 40) hx hb dX9_valuesNow_0 (by decide) ?_
  refine xa_newa (atype := .char) hx hb (hts _ q_314) rfl hK hP hD hS hA (n := 40) (N' := 40) (a0 := (40, .inl (fun _ => 0))) (fun _ => rfl) (by decide) (by decide) (Nat.le_of_ble_eq_true rfl) (Nat.le_of_ble_eq_true rfl) (Nat.le_of_ble_eq_true rfl) dX9_valuesNow_2 (fun a1 k2 H3 hg8 hK hP hD hS => ?_)
  have hG : s.heap.size + 1 ≤ H3.size := by rw [hg8]; exact Nat.succ_le_succ hG
  have hK : va_K (dC, dI) xCl [(kc0, .object "java/lang/Object"), (k2, .char)] s := hK
  have hP : va_P (dC, dI) xCl [(h0, .inr (8, [.int 0, .ref h1, .ref o0, .ref o1, .ref o2, .int 0])), (h1, .inr (0, [.int 1, .ref h2, .int 1])), (h2, .inl (kc0, 10, .inr (.inr (.inr (.inr (va_up (fun _ => none) 0 (some h3))))))), (h3, .inr (7, [.int 105, .int 120, .int 0, .int (-1), .int 0, .int (-1)])), (a1, .inl (k2, 40, .inl (fun _ => 0)))] H3 := hP
  have hD : va_D A [(h0, .inr (8, [.int 0, .ref h1, .ref o0, .ref o1, .ref o2, .int 0])), (h1, .inr (0, [.int 1, .ref h2, .int 1])), (h2, .inl (kc0, 10, .inr (.inr (.inr (.inr (va_up (fun _ => none) 0 (some h3))))))), (h3, .inr (7, [.int 105, .int 120, .int 0, .int (-1), .int 0, .int (-1)])), (a1, .inl (k2, 40, .inl (fun _ => 0)))] := hD
  refine W.widen (k := 1) (n := 40) (by decide) (by decide) ?_
  refine lv_astore_n (lv' := [(1, .ref a1), (0, .ref h0)]) hx hb dX9_valuesNow_4 rfl hl (by decide) rfl (fun ls hl => ?_)
  refine lv_iconst (v := 0) hx hb dX9_valuesNow_5 (by decide) ?_
  refine lv_istore_n (lv' := [(2, .int 0), (1, .ref a1), (0, .ref h0)]) hx hb dX9_valuesNow_6 rfl hl (by decide) rfl (fun ls hl => ?_)
  refine lv_iload_n hx hb dX9_valuesNow_7 rfl (lv_at hl 0 rfl) ?_
  refine lv_aload_n hx hb dX9_valuesNow_8 rfl (lv_at hl 2 rfl) ?_
  refine va_get (D := (dC, dI)) (ci := 8) (v := .ref h1) (C := RX9) (T := TX9) (N := 6) hx hb hts in_X9 hown hK hP 0 rfl rfl 1 (by decide) (hts _ q_64) (fun _ h9 => h9) rfl dX9_valuesNow_9 ?_
  have hF4 := va_free (wc := [(h1, .inr (0, [.int 1, .ref h2, .int 1]))]) hD hS hA [1] rfl
  refine va_calli (va_runV (As := []) (rest := [.int 0]) ⟨hx, hb, hml, hown, hts⟩ (k20_size l hl9 dC dI z h1 h2 H3.size 1 1) (cwV 0 hts (gV q_272 q_77 q_78 q_12 q_75) rfl rfl rfl (by decide +kernel) ⟨Nat.le_of_ble_eq_true rfl, Nat.le_of_ble_eq_true rfl⟩) ⟨pc_blind, va_recv hK hP (ci := 0) (q0 := 1) rfl rfl, fun U hU hW => ⟨rfl, pc_mk hP hD hK hS hX hT [1] [] rfl rfl rfl rfl hF4 hU hW⟩⟩ rfl rfl hl.1 rfl (lv_room (Nat.le_of_ble_eq_true rfl)) dX9_valuesNow_12 ⟨(Nat.le_of_ble_eq_true rfl), (Nat.le_of_ble_eq_true rfl)⟩) hS (fun q9 _ h9 => hF4 q9 h9) hF4 (fun r7 u6 t6 H6 L6 ht6 hvm6 hw6 hB6 hz6 hk6 hS => ?_)
  obtain ⟨hP, hD, hK⟩ := pq_join (wr := [(h0, .inr (8, [.int 0, .ref h1, .ref o0, .ref o1, .ref o2, .int 0])), (h2, .inl (kc0, 10, .inr (.inr (.inr (.inr (va_up (fun _ => none) 0 (some h3))))))), (h3, .inr (7, [.int 105, .int 120, .int 0, .int (-1), .int 0, .int (-1)])), (a1, .inl (k2, 40, .inl (fun _ => 0)))]) (tr := [(kc0, .object "java/lang/Object"), (k2, .char)]) (wz := [(h0, .inr (8, [.int 0, .ref h1, .ref o0, .ref o1, .ref o2, .int 0])), (h2, .inl (kc0, 10, .inr (.inr (.inr (.inr (va_up (fun _ => none) 0 (some h3))))))), (h3, .inr (7, [.int 105, .int 120, .int 0, .int (-1), .int 0, .int (-1)])), (a1, .inl (k2, 40, .inl (fun _ => 0))), (h1, .inr (0, [.int 1, .ref h2, .int 1]))]) (tz := [(kc0, .object "java/lang/Object"), (k2, .char)]) hP hD hK [1] [0, 2, 3, 4] [0, 1] rfl rfl (by decide) (by decide) rfl hk6 hF4 hB6.1 ht6 hvm6 rfl rfl
  have hG : s.heap.size + 1 ≤ H6.size := Nat.le_trans hG hz6
  refine W.eq (g2 := F0 m 15 ls [.int 1, .int 0]) (by rw [hw6]) ?_
  refine lv_icmp_ge (tgt := 41) hx hb dX9_valuesNow_15 (by decide) (fun cz => absurd cz (by decide)) (fun _ => ?_)
  refine lv_aload_n hx hb dX9_valuesNow_18 rfl (lv_at hl 1 rfl) ?_
  refine lv_iload_n hx hb dX9_valuesNow_19 rfl (lv_at hl 0 rfl) ?_
  refine lv_aload_n hx hb dX9_valuesNow_20 rfl (lv_at hl 2 rfl) ?_
  refine va_get (D := (dC, dI)) (ci := 8) (v := .ref h1) (C := RX9) (T := TX9) (N := 6) hx hb hts in_X9 hown hK hP 0 rfl rfl 1 (by decide) (hts _ q_64) (fun _ h9 => h9) rfl dX9_valuesNow_21 ?_
  refine lv_iload_n hx hb dX9_valuesNow_24 rfl (lv_at hl 0 rfl) ?_
  have hF8 := va_free (wc := [(h1, .inr (0, [.int 1, .ref h2, .int 1])), (h2, .inl (kc0, 10, .inr (.inr (.inr (.inr (va_up (fun _ => none) 0 (some h3)))))))]) hD hS hA [4, 1] rfl
  refine va_callr (va_runV (As := [.int 0]) (rest := [.int 0, .ref a1]) ⟨hx, hb, hml, hown, hts⟩ (k24_get l hl9 dC dI z h1 h2 h3 H6.size kc0) (cwV 1 hts (gV q_315 q_157 q_158 q_12 q_155) rfl rfl rfl (by decide +kernel) ⟨Nat.le_of_ble_eq_true rfl, Nat.le_of_ble_eq_true rfl⟩) ⟨pc_blind, va_recv hK hP (ci := 0) (q0 := 4) rfl rfl, fun U hU hW => ⟨rfl, pc_mk hP hD hK hS hX hT [4, 1] [0] rfl rfl rfl rfl hF8 hU hW⟩⟩ rfl rfl hl.1 rfl (lv_room (Nat.le_of_ble_eq_true rfl)) dX9_valuesNow_25 ⟨(Nat.le_of_ble_eq_true rfl), (Nat.le_of_ble_eq_true rfl)⟩) hS (fun q9 _ h9 => hF8 q9 h9) hF8 (fun u10 r11 t10 H10 L10 ht10 hvm10 hw10 hB10 hz10 hk10 hS => ?_)
  obtain ⟨hr10, hB10⟩ := hB10
  obtain ⟨hP, hD, hK⟩ := pq_join (wr := [(h0, .inr (8, [.int 0, .ref h1, .ref o0, .ref o1, .ref o2, .int 0])), (h3, .inr (7, [.int 105, .int 120, .int 0, .int (-1), .int 0, .int (-1)])), (a1, .inl (k2, 40, .inl (fun _ => 0)))]) (tr := [(k2, .char)]) (wz := [(h0, .inr (8, [.int 0, .ref h1, .ref o0, .ref o1, .ref o2, .int 0])), (h3, .inr (7, [.int 105, .int 120, .int 0, .int (-1), .int 0, .int (-1)])), (a1, .inl (k2, 40, .inl (fun _ => 0))), (h1, .inr (0, [.int 1, .ref h2, .int 1])), (h2, .inl (kc0, 10, .inr (.inr (.inr (.inr (va_up (fun _ => none) 0 (some h3)))))))]) (tz := [(k2, .char), (kc0, .object "java/lang/Object")]) hP hD hK [4, 1] [0, 2, 3] [1] rfl rfl (by decide) (by decide) rfl hk10 hF8 hB10.1 ht10 hvm10 rfl rfl
  have hG : s.heap.size + 1 ≤ H10.size := Nat.le_trans hG hz10
  refine W.eq (g2 := F0 m 28 ls [.ref h3, .int 0, .ref a1]) (by rw [hr10]) ?_
  refine va_castE (nm := RX8) hx hb hown (hts _ q_273) (va_recv hK hP (ci := 7) (q0 := 1) rfl rfl) dX9_valuesNow_28 ?_
  refine va_get (D := (dC, dI)) (ci := 7) (v := .int 120) (C := RX8) (T := TX8) (N := 6) hx hb hts in_X8 hown hK hP 1 rfl rfl 1 (by decide) (hts _ q_311) (fun _ h9 => h9) rfl dX9_valuesNow_31 ?_
  refine va_cast hx hb hK hP hD (va_Sre hS) 2 0 rfl rfl (i := 0) (by unfold vp_in; decide) dX9_valuesNow_34 (fun H12 _ hP hD hS' => ?_)
  have hG : s.heap.size + 1 ≤ H12.size := Nat.le_trans hG hS'.1
  have hS := va_Str hS hS'
  have hP : va_P (dC, dI) xCl [(h0, .inr (8, [.int 0, .ref h1, .ref o0, .ref o1, .ref o2, .int 0])), (h3, .inr (7, [.int 105, .int 120, .int 0, .int (-1), .int 0, .int (-1)])), (a1, .inl (k2, 40, .inl (upd (fun _ => 0) 0 120))), (h1, .inr (0, [.int 1, .ref h2, .int 1])), (h2, .inl (kc0, 10, .inr (.inr (.inr (.inr (va_up (fun _ => none) 0 (some h3)))))))] H12 := hP
  have hD : va_D A [(h0, .inr (8, [.int 0, .ref h1, .ref o0, .ref o1, .ref o2, .int 0])), (h3, .inr (7, [.int 105, .int 120, .int 0, .int (-1), .int 0, .int (-1)])), (a1, .inl (k2, 40, .inl (upd (fun _ => 0) 0 120))), (h1, .inr (0, [.int 1, .ref h2, .int 1])), (h2, .inl (kc0, 10, .inr (.inr (.inr (.inr (va_up (fun _ => none) 0 (some h3)))))))] := hD
  refine lv_iinc (v := 1) (lv' := [(2, .int 1), (1, .ref a1), (0, .ref h0)]) hx hb dX9_valuesNow_35 hl (k := 0) rfl (by decide) (by decide) rfl (fun ls hl => ?_)
  refine lv_goto (tgt := 7) hx hb dX9_valuesNow_38 (by decide) ?_
  refine lv_iload_n hx hb dX9_valuesNow_7 rfl (lv_at hl 0 rfl) ?_
  refine lv_aload_n hx hb dX9_valuesNow_8 rfl (lv_at hl 2 rfl) ?_
  refine va_get (D := (dC, dI)) (ci := 8) (v := .ref h1) (C := RX9) (T := TX9) (N := 6) hx hb hts in_X9 hown hK hP 0 rfl rfl 1 (by decide) (hts _ q_64) (fun _ h9 => h9) rfl dX9_valuesNow_9 ?_
  have hF13 := va_free (wc := [(h1, .inr (0, [.int 1, .ref h2, .int 1]))]) hD hS hA [3] rfl
  refine va_calli (va_runV (As := []) (rest := [.int 1]) ⟨hx, hb, hml, hown, hts⟩ (k20_size l hl9 dC dI z h1 h2 H12.size 1 1) (cwV 0 hts (gV q_272 q_77 q_78 q_12 q_75) rfl rfl rfl (by decide +kernel) ⟨Nat.le_of_ble_eq_true rfl, Nat.le_of_ble_eq_true rfl⟩) ⟨pc_blind, va_recv hK hP (ci := 0) (q0 := 3) rfl rfl, fun U hU hW => ⟨rfl, pc_mk hP hD hK hS hX hT [3] [] rfl rfl rfl rfl hF13 hU hW⟩⟩ rfl rfl hl.1 rfl (lv_room (Nat.le_of_ble_eq_true rfl)) dX9_valuesNow_12 ⟨(Nat.le_of_ble_eq_true rfl), (Nat.le_of_ble_eq_true rfl)⟩) hS (fun q9 _ h9 => hF13 q9 h9) hF13 (fun r16 u15 t15 H15 L15 ht15 hvm15 hw15 hB15 hz15 hk15 hS => ?_)
  obtain ⟨hP, hD, hK⟩ := pq_join (wr := [(h0, .inr (8, [.int 0, .ref h1, .ref o0, .ref o1, .ref o2, .int 0])), (h3, .inr (7, [.int 105, .int 120, .int 0, .int (-1), .int 0, .int (-1)])), (a1, .inl (k2, 40, .inl (upd (fun _ => 0) 0 120))), (h2, .inl (kc0, 10, .inr (.inr (.inr (.inr (va_up (fun _ => none) 0 (some h3)))))))]) (tr := [(k2, .char), (kc0, .object "java/lang/Object")]) (wz := [(h0, .inr (8, [.int 0, .ref h1, .ref o0, .ref o1, .ref o2, .int 0])), (h3, .inr (7, [.int 105, .int 120, .int 0, .int (-1), .int 0, .int (-1)])), (a1, .inl (k2, 40, .inl (upd (fun _ => 0) 0 120))), (h2, .inl (kc0, 10, .inr (.inr (.inr (.inr (va_up (fun _ => none) 0 (some h3))))))), (h1, .inr (0, [.int 1, .ref h2, .int 1]))]) (tz := [(k2, .char), (kc0, .object "java/lang/Object")]) hP hD hK [3] [0, 1, 2, 4] [0, 1] rfl rfl (by decide) (by decide) rfl hk15 hF13 hB15.1 ht15 hvm15 rfl rfl
  have hG : s.heap.size + 1 ≤ H15.size := Nat.le_trans hG hz15
  refine W.eq (g2 := F0 m 15 ls [.int 1, .int 1]) (by rw [hw15]) ?_
  refine lv_icmp_ge (tgt := 41) hx hb dX9_valuesNow_15 (by decide) (fun _ => ?_) (fun cz => absurd (by decide) cz)
  refine lv_aload_n hx hb dX9_valuesNow_41 rfl (lv_at hl 1 rfl) ?_
  exact W.aret (v := .ref a1) hx hb hr (by first | exact Or.inl ⟨_, rfl⟩ | exact Or.inr ⟨_, rfl⟩) (Or.inr ⟨_, rfl⟩) (fun t9 ht9 hW9 => ⟨⟨(), a1, rfl, trivial, ⟨a1, k2, rfl, ⟨pq_mk (wc := [(h0, .inr (8, [.int 0, .ref h1, .ref o0, .ref o1, .ref o2, .int 0])), (h1, .inr (0, [.int 1, .ref h2, .int 1])), (h2, .inl (kc0, 10, .inr (.inr (.inr (.inr (va_up (fun _ => none) 0 (some h3))))))), (h3, .inr (7, [.int 105, .int 120, .int 0, .int (-1), .int 0, .int (-1)])), (a1, .inl (k2, 40, .inl (upd (fun _ => 0) 0 120)))]) (tc := [(kc0, .object "java/lang/Object"), (k2, .char)]) hP hD hK [0, 4, 3, 1, 2] [1, 0] rfl rfl rfl rfl ht9 hW9, by rw [ht9]; exact Nat.le_trans (Nat.add_le_add_left (Nat.le_of_ble_eq_true rfl) _) hG⟩⟩⟩, hS.F ht9⟩) hS.2.2 dX9_valuesNow_42

set_option maxHeartbeats 4000000 in
set_option maxRecDepth 100000 in
theorem k69_init (l : Launch) (hl9 : l.stackTraces = false) (dC : Nat → ClassId) (dI : Nat → Nat → Nat) (z : XZ) (h0 h1 : Nat) (o0 : Nat) (sz : Nat) : Met l yJx35411_init_45d68 (.code yJx35411_init_45d68 cJx35411_init_45d68 2 none :: wsL_law) ({ frames := 1, cells := 0, slots := 0, locals := 16 }) (va_Pc [.ref h0, .ref h1] (PC (dC, dI) [(h0, .inr (1, [.int 0, .int 0, .int 0, .null])), (h1, .inr (0, [.int 2, .ref o0, .int 1]))] [] sz z)) (va_Qv (fun (_ : Unit) => True) (fun (_ : Unit) (t : State) => PG (dC, dI) [(h0, .inr (1, [.int 0, .int (-1), .int 2, .ref h1])), (h1, .inr (0, [.int 2, .ref o0, .int 1]))] [] (va_A [(h0, .inr (1, [.int 0, .int 0, .int 0, .null])), (h1, .inr (0, [.int 2, .ref o0, .int 1]))] sz) sz 0 t) (va_A [(h0, .inr (1, [.int 0, .int 0, .int 0, .null])), (h1, .inr (0, [.int 2, .ref o0, .int 1]))] sz)) 0 0 (va_A [(h0, .inr (1, [.int 0, .int 0, .int 0, .null])), (h1, .inr (0, [.int 2, .ref o0, .int 1]))] sz) := by
  refine Met.ofW (cc := cJx35411_init_45d68) (maxL := 2) (ret := none) (by decide) rfl ?_
  intro p e s m args below meth c s₁ B hml hv
  obtain ⟨rfl, hsz, hP, hK, hD0, hX, hT⟩ := hv
  have hx := B.exec
  have hb := B.bytes
  have hr := B.returns
  have hts0 := atoms_spec (ws := .code yJx35411_init_45d68 cJx35411_init_45d68 2 none :: wsL_law) B.pre
  have hts := xTail hts0
  have hown : s.vm.findClass RJx35411 = some m.cls := findClass_of_methodNamed B.named
  have hlocks := B.notSynchronized
  have hin : meth.name = "<init>" := (name_of_methodNamed B.named B.method).1
  subst hsz
  have hD := hD0.self (sz := s.heap.size)
  generalize hAe : va_A [(h0, .inr (1, [.int 0, .int 0, .int 0, .null])), (h1, .inr (0, [.int 2, .ref o0, .int 1]))] s.heap.size = A at hD hX ⊢
  have hA : ∀ q : Nat, s.heap.size ≤ q → A q := fun q h => by rw [← hAe]; exact Or.inr h
  have hS : va_S A s.heap s.heap [] := va_S.rf
  have hG : s.heap.size + 0 ≤ s.heap.size := Nat.le_refl _
  have hl := lv_entry ([.ref h0, .ref h1]) (n := 2) (Nat.le_of_ble_eq_true rfl)
  rw [lg_entry_eq]
  generalize (lg_sl ([.ref h0, .ref h1]) ++ List.replicate (2 - (lg_sl ([.ref h0, .ref h1])).length) Slot.unset).toArray = ls at hl ⊢
  have hl : lv_has ls 2 [(0, .ref h0), (1, .ref h1)] := hl
  refine lv_aload_n hx hb dJx35411_init_45d68_0 rfl (lv_at hl 0 rfl) ?_
  refine lv_aload_n hx hb dJx35411_init_45d68_1 rfl (lv_at hl 1 rfl) ?_
  refine va_putF (D := (dC, dI)) (ci := 1) (v := .ref h1) (ty := .object "java/util/ArrayList") (C := RJx35411) (T := TJx35411) (N := 4) hx hb hts in_Jx35411 tyJx35411 tyJx35411_ok nmJx35411 hown hK hP hD (va_Sre hS) 0 rfl rfl 3 (by decide) (hts _ q_247) (fun _ h9 => h9) rfl hin rfl (by decide +kernel) rfl rfl (Nat.le_of_ble_eq_true rfl) dJx35411_init_45d68_2 (fun H1 _ hP hD hS' => ?_)
  have hG : s.heap.size + 0 ≤ H1.size := Nat.le_trans hG hS'.1
  have hS := va_Str hS hS'
  have hP : va_P (dC, dI) xCl [(h0, .inr (1, [.int 0, .int 0, .int 0, .ref h1])), (h1, .inr (0, [.int 2, .ref o0, .int 1]))] H1 := hP
  have hD : va_D A [(h0, .inr (1, [.int 0, .int 0, .int 0, .ref h1])), (h1, .inr (0, [.int 2, .ref o0, .int 1]))] := hD
  refine lv_aload_n hx hb dJx35411_init_45d68_5 rfl (lv_at hl 0 rfl) ?_
  refine W.objInit hx hb hown (hts _ q_248) (hts _ q_4) (hts _ q_5) rfl (by rw [hml]; exact hl.1) rfl dJx35411_init_45d68_6 (Nat.le_of_ble_eq_true rfl) (Nat.le_of_ble_eq_true rfl) ?_
  refine W.eq (g2 := F0 m 9 ls []) rfl ?_
  refine lv_aload_n hx hb dJx35411_init_45d68_9 rfl (lv_at hl 0 rfl) ?_
  refine lv_iconst (v := (-1)) hx hb dJx35411_init_45d68_10 (by decide) ?_
  refine va_put (D := (dC, dI)) (ci := 1) (v := .int (-1)) (ty := .int) (C := RJx35411) (T := TJx35411) (N := 4) hx hb hts in_Jx35411 tyJx35411 tyJx35411_ok nmJx35411 hown hK hP hD (va_Sre hS) 0 rfl rfl 1 (by decide) (hts _ q_249) (fun _ h9 => h9) rfl (by decide +kernel) rfl rfl (Nat.le_of_ble_eq_true rfl) dJx35411_init_45d68_11 (fun H2 _ hP hD hS' => ?_)
  have hG : s.heap.size + 0 ≤ H2.size := Nat.le_trans hG hS'.1
  have hS := va_Str hS hS'
  have hP : va_P (dC, dI) xCl [(h0, .inr (1, [.int 0, .int (-1), .int 0, .ref h1])), (h1, .inr (0, [.int 2, .ref o0, .int 1]))] H2 := hP
  have hD : va_D A [(h0, .inr (1, [.int 0, .int (-1), .int 0, .ref h1])), (h1, .inr (0, [.int 2, .ref o0, .int 1]))] := hD
  refine lv_aload_n hx hb dJx35411_init_45d68_14 rfl (lv_at hl 0 rfl) ?_
  refine lv_aload_n hx hb dJx35411_init_45d68_15 rfl (lv_at hl 0 rfl) ?_
  refine va_get (D := (dC, dI)) (ci := 1) (v := .ref h1) (C := RJx35411) (T := TJx35411) (N := 4) hx hb hts in_Jx35411 hown hK hP 0 rfl rfl 3 (by decide) (hts _ q_247) (fun _ h9 => h9) rfl dJx35411_init_45d68_16 ?_
  refine va_get (D := (dC, dI)) (ci := 0) (v := .int 2) (C := RJx4a65c) (T := TJx4a65c) (N := 3) hx hb hts in_Jx4a65c hown hK hP 1 rfl rfl 0 (by decide) (hts _ q_250) (u_same (hts _ q_107)) rfl dJx35411_init_45d68_19 ?_
  refine va_put (D := (dC, dI)) (ci := 1) (v := .int 2) (ty := .int) (C := RJx35411) (T := TJx35411) (N := 4) hx hb hts in_Jx35411 tyJx35411 tyJx35411_ok nmJx35411 hown hK hP hD (va_Sre hS) 0 rfl rfl 2 (by decide) (hts _ q_251) (fun _ h9 => h9) rfl (by decide +kernel) rfl rfl (Nat.le_of_ble_eq_true rfl) dJx35411_init_45d68_22 (fun H3 _ hP hD hS' => ?_)
  have hG : s.heap.size + 0 ≤ H3.size := Nat.le_trans hG hS'.1
  have hS := va_Str hS hS'
  have hP : va_P (dC, dI) xCl [(h0, .inr (1, [.int 0, .int (-1), .int 2, .ref h1])), (h1, .inr (0, [.int 2, .ref o0, .int 1]))] H3 := hP
  have hD : va_D A [(h0, .inr (1, [.int 0, .int (-1), .int 2, .ref h1])), (h1, .inr (0, [.int 2, .ref o0, .int 1]))] := hD
  exact W.vret hx hb hr (fun t9 ht9 hW9 => ⟨⟨(), rfl, trivial, ⟨pq_mk (wc := [(h0, .inr (1, [.int 0, .int (-1), .int 2, .ref h1])), (h1, .inr (0, [.int 2, .ref o0, .int 1]))]) (tc := []) hP hD hK [0, 1] [] rfl rfl rfl rfl ht9 hW9, by rw [ht9]; exact Nat.le_trans (Nat.add_le_add_left (Nat.le_of_ble_eq_true rfl) _) hG⟩⟩, hS.F ht9⟩) hS.2.2 dJx35411_init_45d68_25

set_option maxHeartbeats 4000000 in
set_option maxRecDepth 100000 in
theorem k70_iterator (l : Launch) (hl9 : l.stackTraces = false) (dC : Nat → ClassId) (dI : Nat → Nat → Nat) (z : XZ) (h0 : Nat) (o0 : Nat) (sz : Nat) : Met l yJx4a65c_iterator_32c93 (.code yJx4a65c_iterator_32c93 cJx4a65c_iterator_32c93 1 (some (.object "java/util/Iterator")) :: wsL_law) ({ frames := 2, cells := 1, slots := 4, locals := 37 }) (va_Pc [.ref h0] (PC (dC, dI) [(h0, .inr (0, [.int 2, .ref o0, .int 1]))] [] sz z)) (va_Qr (fun (_ : Unit) => True) (fun (_ : Unit) (ra : Nat) (t : State) => ∃ (n0 : Nat), ra = n0 ∧ PG (dC, dI) [(h0, .inr (0, [.int 2, .ref o0, .int 1])), (n0, .inr (1, [.int 0, .int (-1), .int 2, .ref h0]))] [] (va_A [(h0, .inr (0, [.int 2, .ref o0, .int 1]))] sz) sz 1 t) (va_A [(h0, .inr (0, [.int 2, .ref o0, .int 1]))] sz)) 1 4 (va_A [(h0, .inr (0, [.int 2, .ref o0, .int 1]))] sz) := by
  refine Met.ofW (cc := cJx4a65c_iterator_32c93) (maxL := 1) (ret := (some (.object "java/util/Iterator"))) (by decide) rfl ?_
  intro p e s m args below meth c s₁ B hml hv
  obtain ⟨rfl, hsz, hP, hK, hD0, hX, hT⟩ := hv
  have hx := B.exec
  have hb := B.bytes
  have hr := B.returns
  have hts0 := atoms_spec (ws := .code yJx4a65c_iterator_32c93 cJx4a65c_iterator_32c93 1 (some (.object "java/util/Iterator")) :: wsL_law) B.pre
  have hts := xTail hts0
  have hown : s.vm.findClass RJx4a65c = some m.cls := findClass_of_methodNamed B.named
  have hlocks := B.notSynchronized
  subst hsz
  have hD := hD0.self (sz := s.heap.size)
  generalize hAe : va_A [(h0, .inr (0, [.int 2, .ref o0, .int 1]))] s.heap.size = A at hD hX ⊢
  have hA : ∀ q : Nat, s.heap.size ≤ q → A q := fun q h => by rw [← hAe]; exact Or.inr h
  have hS : va_S A s.heap s.heap [] := va_S.rf
  have hG : s.heap.size + 0 ≤ s.heap.size := Nat.le_refl _
  have hl := lv_entry ([.ref h0]) (n := 1) (Nat.le_of_ble_eq_true rfl)
  rw [lg_entry_eq]
  generalize (lg_sl ([.ref h0]) ++ List.replicate (1 - (lg_sl ([.ref h0])).length) Slot.unset).toArray = ls at hl ⊢
  have hl : lv_has ls 1 [(0, .ref h0)] := hl
  refine xa_new (ci := 1) (fs := [.int 0, .int 0, .int 0, .null]) (C := RJx35411) (T := TJx35411) (N := 4) hx hb hts in_Jx35411 tyJx35411 tyJx35411_ok hown (hts _ q_244) (hts _ q_245) (hts _ q_246) hK hP hD hS hA rfl nf_Jx35411 (Nat.le_of_ble_eq_true rfl) (Nat.le_of_ble_eq_true rfl) dJx4a65c_iterator_32c93_0 (fun a1 H2 hg8 hP hD hS => ?_)
  have hG : s.heap.size + 1 ≤ H2.size := by rw [hg8]; exact Nat.succ_le_succ hG
  have hP : va_P (dC, dI) xCl [(h0, .inr (0, [.int 2, .ref o0, .int 1])), (a1, .inr (1, [.int 0, .int 0, .int 0, .null]))] H2 := hP
  have hD : va_D A [(h0, .inr (0, [.int 2, .ref o0, .int 1])), (a1, .inr (1, [.int 0, .int 0, .int 0, .null]))] := hD
  refine W.widen (k := 1) (n := 4) (by decide) (by decide) ?_
  refine lv_dup hx hb dJx4a65c_iterator_32c93_3 rfl ?_
  refine lv_aload_n hx hb dJx4a65c_iterator_32c93_4 rfl (lv_at hl 0 rfl) ?_
  have hF3 := va_free (wc := [(a1, .inr (1, [.int 0, .int 0, .int 0, .null])), (h0, .inr (0, [.int 2, .ref o0, .int 1]))]) hD hS hA [1, 0] rfl
  refine va_callv (va_runI (As := [.ref h0]) (rest := [.ref a1]) ⟨hx, hb, hml, hown, hts⟩ (k69_init l hl9 dC dI z a1 h0 o0 H2.size) (cwI 1 hts (gIL q_252) rfl rfl rfl (hts _ q_246) (hts _ q_253) (hts _ q_254) rfl (by decide +kernel) ⟨Nat.le_of_ble_eq_true rfl, Nat.le_of_ble_eq_true rfl⟩) ⟨pc_blind, fun U hU hW => ⟨rfl, pc_mk hP hD hK hS hX hT [1, 0] [] rfl rfl rfl rfl hF3 hU hW⟩⟩ rfl rfl hl.1 rfl (lv_room (Nat.le_of_ble_eq_true rfl)) dJx4a65c_iterator_32c93_5 ⟨(Nat.le_of_ble_eq_true rfl), (Nat.le_of_ble_eq_true rfl)⟩) hS (fun q9 _ h9 => hF3 q9 h9) hF3 (fun u5 t5 H5 L5 ht5 hvm5 hw5 hB5 hz5 hk5 hS => ?_)
  obtain ⟨hP, hD, hK⟩ := pq_join (wr := []) (tr := []) (wz := [(a1, .inr (1, [.int 0, .int (-1), .int 2, .ref h0])), (h0, .inr (0, [.int 2, .ref o0, .int 1]))]) (tz := []) hP hD hK [1, 0] [] [] rfl rfl (by decide) (by decide) rfl hk5 hF3 hB5.1 ht5 hvm5 rfl rfl
  have hG : s.heap.size + 1 ≤ H5.size := Nat.le_trans hG hz5
  exact W.aret (v := .ref a1) hx hb hr (by first | exact Or.inl ⟨_, rfl⟩ | exact Or.inr ⟨_, rfl⟩) (Or.inr ⟨_, rfl⟩) (fun t9 ht9 hW9 => ⟨⟨(), a1, rfl, trivial, ⟨a1, rfl, ⟨pq_mk (wc := [(h0, .inr (0, [.int 2, .ref o0, .int 1])), (a1, .inr (1, [.int 0, .int (-1), .int 2, .ref h0]))]) (tc := []) hP hD hK [1, 0] [] rfl rfl rfl rfl ht9 hW9, by rw [ht9]; exact Nat.le_trans (Nat.add_le_add_left (Nat.le_of_ble_eq_true rfl) _) hG⟩⟩⟩, hS.F ht9⟩) hS.2.2 dJx4a65c_iterator_32c93_8

set_option maxHeartbeats 4000000 in
set_option maxRecDepth 100000 in
theorem k71_hasNext (l : Launch) (hl9 : l.stackTraces = false) (dC : Nat → ClassId) (dI : Nat → Nat → Nat) (z : XZ) (h0 h1 : Nat) (o0 : Nat) (sz : Nat) : Met l yJx35411_hasNext_aae02 (.code yJx35411_hasNext_aae02 cJx35411_hasNext_aae02 1 (some .boolean) :: wsL_law) ({ frames := 0, cells := 0, slots := 0, locals := 0 }) (va_Pc [.ref h0] (PC (dC, dI) [(h0, .inr (1, [.int 0, .int (-1), .int 2, .ref h1])), (h1, .inr (0, [.int 2, .ref o0, .int 1]))] [] sz z)) (va_Qi (fun (r : Int32) (_ : Unit) => r = 1) (fun (_ : Unit) (t : State) => PG (dC, dI) [(h0, .inr (1, [.int 0, .int (-1), .int 2, .ref h1])), (h1, .inr (0, [.int 2, .ref o0, .int 1]))] [] (va_A [(h0, .inr (1, [.int 0, .int (-1), .int 2, .ref h1])), (h1, .inr (0, [.int 2, .ref o0, .int 1]))] sz) sz 0 t) (va_A [(h0, .inr (1, [.int 0, .int (-1), .int 2, .ref h1])), (h1, .inr (0, [.int 2, .ref o0, .int 1]))] sz)) 0 0 (va_A [(h0, .inr (1, [.int 0, .int (-1), .int 2, .ref h1])), (h1, .inr (0, [.int 2, .ref o0, .int 1]))] sz) := by
  refine Met.ofW (cc := cJx35411_hasNext_aae02) (maxL := 1) (ret := (some .boolean)) (by decide) rfl ?_
  intro p e s m args below meth c s₁ B hml hv
  obtain ⟨rfl, hsz, hP, hK, hD0, hX, hT⟩ := hv
  have hx := B.exec
  have hb := B.bytes
  have hr := B.returns
  have hts0 := atoms_spec (ws := .code yJx35411_hasNext_aae02 cJx35411_hasNext_aae02 1 (some .boolean) :: wsL_law) B.pre
  have hts := xTail hts0
  have hown : s.vm.findClass RJx35411 = some m.cls := findClass_of_methodNamed B.named
  have hlocks := B.notSynchronized
  subst hsz
  have hD := hD0.self (sz := s.heap.size)
  generalize hAe : va_A [(h0, .inr (1, [.int 0, .int (-1), .int 2, .ref h1])), (h1, .inr (0, [.int 2, .ref o0, .int 1]))] s.heap.size = A at hD hX ⊢
  have hA : ∀ q : Nat, s.heap.size ≤ q → A q := fun q h => by rw [← hAe]; exact Or.inr h
  have hS : va_S A s.heap s.heap [] := va_S.rf
  have hG : s.heap.size + 0 ≤ s.heap.size := Nat.le_refl _
  have hl := lv_entry ([.ref h0]) (n := 1) (Nat.le_of_ble_eq_true rfl)
  rw [lg_entry_eq]
  generalize (lg_sl ([.ref h0]) ++ List.replicate (1 - (lg_sl ([.ref h0])).length) Slot.unset).toArray = ls at hl ⊢
  have hl : lv_has ls 1 [(0, .ref h0)] := hl
  refine lv_aload_n hx hb dJx35411_hasNext_aae02_0 rfl (lv_at hl 0 rfl) ?_
  refine va_get (D := (dC, dI)) (ci := 1) (v := .int 0) (C := RJx35411) (T := TJx35411) (N := 4) hx hb hts in_Jx35411 hown hK hP 0 rfl rfl 0 (by decide) (hts _ q_259) (fun _ h9 => h9) rfl dJx35411_hasNext_aae02_1 ?_
  refine lv_aload_n hx hb dJx35411_hasNext_aae02_4 rfl (lv_at hl 0 rfl) ?_
  refine va_get (D := (dC, dI)) (ci := 1) (v := .ref h1) (C := RJx35411) (T := TJx35411) (N := 4) hx hb hts in_Jx35411 hown hK hP 0 rfl rfl 3 (by decide) (hts _ q_247) (fun _ h9 => h9) rfl dJx35411_hasNext_aae02_5 ?_
  refine va_getN (D := (dC, dI)) (ci := 0) (v := .int 1) (C := RJx4a65c) (T := TJx4a65c) (N := 3) hx hb hts in_Jx4a65c hown hK hP 1 rfl rfl 2 (by decide) (va_Nw.use rfl hT.2.2.2.2.1) (fun _ h9 => h9) rfl dJx35411_hasNext_aae02_8 ?_
  refine lv_icmp_eq (tgt := 18) hx hb dJx35411_hasNext_aae02_11 (by decide) (fun cz => absurd cz (by decide)) (fun _ => ?_)
  refine lv_iconst (v := 1) hx hb dJx35411_hasNext_aae02_14 (by decide) ?_
  refine lv_goto (tgt := 19) hx hb dJx35411_hasNext_aae02_15 (by decide) ?_
  exact W.zret (v := 1) (ty := .boolean) hx hb hr rfl (fun t9 ht9 hW9 => ⟨⟨1, (), rfl, rfl, ⟨pq_mk (wc := [(h0, .inr (1, [.int 0, .int (-1), .int 2, .ref h1])), (h1, .inr (0, [.int 2, .ref o0, .int 1]))]) (tc := []) hP hD hK [0, 1] [] rfl rfl rfl rfl ht9 hW9, by rw [ht9]; exact Nat.le_trans (Nat.add_le_add_left (Nat.le_of_ble_eq_true rfl) _) hG⟩⟩, hS.F ht9⟩) hS.2.2 dJx35411_hasNext_aae02_19

set_option maxHeartbeats 4000000 in
set_option maxRecDepth 100000 in
theorem k72_checkForComodification (l : Launch) (hl9 : l.stackTraces = false) (dC : Nat → ClassId) (dI : Nat → Nat → Nat) (z : XZ) (h0 h1 : Nat) (o0 : Nat) (sz : Nat) : Met l yJx35411_checkForComodification_da8c8 (.code yJx35411_checkForComodification_da8c8 cJx35411_checkForComodification_da8c8 1 none :: wsL_law) ({ frames := 0, cells := 0, slots := 0, locals := 0 }) (va_Pc [.ref h0] (PC (dC, dI) [(h0, .inr (1, [.int 0, .int (-1), .int 2, .ref h1])), (h1, .inr (0, [.int 2, .ref o0, .int 1]))] [] sz z)) (va_Qv (fun (_ : Unit) => True) (fun (_ : Unit) (t : State) => PG (dC, dI) [(h0, .inr (1, [.int 0, .int (-1), .int 2, .ref h1])), (h1, .inr (0, [.int 2, .ref o0, .int 1]))] [] (va_A [(h0, .inr (1, [.int 0, .int (-1), .int 2, .ref h1])), (h1, .inr (0, [.int 2, .ref o0, .int 1]))] sz) sz 0 t) (va_A [(h0, .inr (1, [.int 0, .int (-1), .int 2, .ref h1])), (h1, .inr (0, [.int 2, .ref o0, .int 1]))] sz)) 0 0 (va_A [(h0, .inr (1, [.int 0, .int (-1), .int 2, .ref h1])), (h1, .inr (0, [.int 2, .ref o0, .int 1]))] sz) := by
  refine Met.ofW (cc := cJx35411_checkForComodification_da8c8) (maxL := 1) (ret := none) (by decide) rfl ?_
  intro p e s m args below meth c s₁ B hml hv
  obtain ⟨rfl, hsz, hP, hK, hD0, hX, hT⟩ := hv
  have hx := B.exec
  have hb := B.bytes
  have hr := B.returns
  have hts0 := atoms_spec (ws := .code yJx35411_checkForComodification_da8c8 cJx35411_checkForComodification_da8c8 1 none :: wsL_law) B.pre
  have hts := xTail hts0
  have hown : s.vm.findClass RJx35411 = some m.cls := findClass_of_methodNamed B.named
  have hlocks := B.notSynchronized
  subst hsz
  have hD := hD0.self (sz := s.heap.size)
  generalize hAe : va_A [(h0, .inr (1, [.int 0, .int (-1), .int 2, .ref h1])), (h1, .inr (0, [.int 2, .ref o0, .int 1]))] s.heap.size = A at hD hX ⊢
  have hA : ∀ q : Nat, s.heap.size ≤ q → A q := fun q h => by rw [← hAe]; exact Or.inr h
  have hS : va_S A s.heap s.heap [] := va_S.rf
  have hG : s.heap.size + 0 ≤ s.heap.size := Nat.le_refl _
  have hl := lv_entry ([.ref h0]) (n := 1) (Nat.le_of_ble_eq_true rfl)
  rw [lg_entry_eq]
  generalize (lg_sl ([.ref h0]) ++ List.replicate (1 - (lg_sl ([.ref h0])).length) Slot.unset).toArray = ls at hl ⊢
  have hl : lv_has ls 1 [(0, .ref h0)] := hl
  refine lv_aload_n hx hb dJx35411_checkForComodification_da8c8_0 rfl (lv_at hl 0 rfl) ?_
  refine va_get (D := (dC, dI)) (ci := 1) (v := .ref h1) (C := RJx35411) (T := TJx35411) (N := 4) hx hb hts in_Jx35411 hown hK hP 0 rfl rfl 3 (by decide) (hts _ q_247) (fun _ h9 => h9) rfl dJx35411_checkForComodification_da8c8_1 ?_
  refine va_get (D := (dC, dI)) (ci := 0) (v := .int 2) (C := RJx4a65c) (T := TJx4a65c) (N := 3) hx hb hts in_Jx4a65c hown hK hP 1 rfl rfl 0 (by decide) (hts _ q_250) (u_same (hts _ q_107)) rfl dJx35411_checkForComodification_da8c8_4 ?_
  refine lv_aload_n hx hb dJx35411_checkForComodification_da8c8_7 rfl (lv_at hl 0 rfl) ?_
  refine va_get (D := (dC, dI)) (ci := 1) (v := .int 2) (C := RJx35411) (T := TJx35411) (N := 4) hx hb hts in_Jx35411 hown hK hP 0 rfl rfl 2 (by decide) (hts _ q_251) (fun _ h9 => h9) rfl dJx35411_checkForComodification_da8c8_8 ?_
  refine lv_icmp_eq (tgt := 22) hx hb dJx35411_checkForComodification_da8c8_11 (by decide) (fun _ => ?_) (fun cz => absurd (by decide) cz)
  exact W.vret hx hb hr (fun t9 ht9 hW9 => ⟨⟨(), rfl, trivial, ⟨pq_mk (wc := [(h0, .inr (1, [.int 0, .int (-1), .int 2, .ref h1])), (h1, .inr (0, [.int 2, .ref o0, .int 1]))]) (tc := []) hP hD hK [0, 1] [] rfl rfl rfl rfl ht9 hW9, by rw [ht9]; exact Nat.le_trans (Nat.add_le_add_left (Nat.le_of_ble_eq_true rfl) _) hG⟩⟩, hS.F ht9⟩) hS.2.2 dJx35411_checkForComodification_da8c8_22

set_option maxHeartbeats 4000000 in
set_option maxRecDepth 100000 in
theorem k73_next (l : Launch) (hl9 : l.stackTraces = false) (dC : Nat → ClassId) (dI : Nat → Nat → Nat) (z : XZ) (h0 h1 h2 : Nat) (sz : Nat) (kc0 : ClassId) : Met l yJx35411_next_0502b (.code yJx35411_next_0502b cJx35411_next_0502b 3 (some (.object "java/lang/Object")) :: wsL_law) ({ frames := 1, cells := 0, slots := 0, locals := 20 }) (va_Pc [.ref h0] (PC (dC, dI) [(h0, .inr (1, [.int 0, .int (-1), .int 2, .ref h1])), (h1, .inr (0, [.int 2, .ref h2, .int 1])), (h2, .inl (kc0, 10, .inr (.inr (.inr (.inr (va_up (fun _ => none) 0 (some (z.2.2.1 128))))))))] [(kc0, .object "java/lang/Object")] sz z)) (va_Qr (fun (_ : Unit) => True) (fun (_ : Unit) (ra : Nat) (t : State) => ra = (z.2.2.1 128) ∧ PG (dC, dI) [(h0, .inr (1, [.int 1, .int 0, .int 2, .ref h1])), (h1, .inr (0, [.int 2, .ref h2, .int 1])), (h2, .inl (kc0, 10, .inr (.inr (.inr (.inr (va_up (fun _ => none) 0 (some (z.2.2.1 128))))))))] [(kc0, .object "java/lang/Object")] (va_A [(h0, .inr (1, [.int 0, .int (-1), .int 2, .ref h1])), (h1, .inr (0, [.int 2, .ref h2, .int 1])), (h2, .inl (kc0, 10, .inr (.inr (.inr (.inr (va_up (fun _ => none) 0 (some (z.2.2.1 128))))))))] sz) sz 0 t) (va_A [(h0, .inr (1, [.int 0, .int (-1), .int 2, .ref h1])), (h1, .inr (0, [.int 2, .ref h2, .int 1])), (h2, .inl (kc0, 10, .inr (.inr (.inr (.inr (va_up (fun _ => none) 0 (some (z.2.2.1 128))))))))] sz)) 0 0 (va_A [(h0, .inr (1, [.int 0, .int (-1), .int 2, .ref h1])), (h1, .inr (0, [.int 2, .ref h2, .int 1])), (h2, .inl (kc0, 10, .inr (.inr (.inr (.inr (va_up (fun _ => none) 0 (some (z.2.2.1 128))))))))] sz) := by
  refine Met.ofW (cc := cJx35411_next_0502b) (maxL := 3) (ret := (some (.object "java/lang/Object"))) (by decide) rfl ?_
  intro p e s m args below meth c s₁ B hml hv
  obtain ⟨rfl, hsz, hP, hK, hD0, hX, hT⟩ := hv
  have hx := B.exec
  have hb := B.bytes
  have hr := B.returns
  have hts0 := atoms_spec (ws := .code yJx35411_next_0502b cJx35411_next_0502b 3 (some (.object "java/lang/Object")) :: wsL_law) B.pre
  have hts := xTail hts0
  have hown : s.vm.findClass RJx35411 = some m.cls := findClass_of_methodNamed B.named
  have hlocks := B.notSynchronized
  subst hsz
  have hD := hD0.self (sz := s.heap.size)
  generalize hAe : va_A [(h0, .inr (1, [.int 0, .int (-1), .int 2, .ref h1])), (h1, .inr (0, [.int 2, .ref h2, .int 1])), (h2, .inl (kc0, 10, .inr (.inr (.inr (.inr (va_up (fun _ => none) 0 (some (z.2.2.1 128))))))))] s.heap.size = A at hD hX ⊢
  have hA : ∀ q : Nat, s.heap.size ≤ q → A q := fun q h => by rw [← hAe]; exact Or.inr h
  have hS : va_S A s.heap s.heap [] := va_S.rf
  have hG : s.heap.size + 0 ≤ s.heap.size := Nat.le_refl _
  have hl := lv_entry ([.ref h0]) (n := 3) (Nat.le_of_ble_eq_true rfl)
  rw [lg_entry_eq]
  generalize (lg_sl ([.ref h0]) ++ List.replicate (3 - (lg_sl ([.ref h0])).length) Slot.unset).toArray = ls at hl ⊢
  have hl : lv_has ls 3 [(0, .ref h0)] := hl
  refine lv_aload_n hx hb dJx35411_next_0502b_0 rfl (lv_at hl 0 rfl) ?_
  have hF1 := va_free (wc := [(h0, .inr (1, [.int 0, .int (-1), .int 2, .ref h1])), (h1, .inr (0, [.int 2, .ref h2, .int 1]))]) hD hS hA [0, 1] rfl
  refine va_callv (va_runV (As := []) (rest := []) ⟨hx, hb, hml, hown, hts⟩ (k72_checkForComodification l hl9 dC dI z h0 h1 h2 s.heap.size) (cwV 0 hts (gV q_303 q_304 q_305 q_246 q_302) rfl rfl rfl (by decide +kernel) ⟨Nat.le_of_ble_eq_true rfl, Nat.le_of_ble_eq_true rfl⟩) ⟨pc_blind, va_recv hK hP (ci := 1) (q0 := 0) rfl rfl, fun U hU hW => ⟨rfl, pc_mk hP hD hK hS hX hT [0, 1] [] rfl rfl rfl rfl hF1 hU hW⟩⟩ rfl rfl hl.1 rfl (lv_room (Nat.le_of_ble_eq_true rfl)) dJx35411_next_0502b_1 ⟨(Nat.le_of_ble_eq_true rfl), (Nat.le_of_ble_eq_true rfl)⟩) hS (fun q9 _ h9 => hF1 q9 h9) hF1 (fun u3 t3 H3 L3 ht3 hvm3 hw3 hB3 hz3 hk3 hS => ?_)
  obtain ⟨hP, hD, hK⟩ := pq_join (wr := [(h2, .inl (kc0, 10, .inr (.inr (.inr (.inr (va_up (fun _ => none) 0 (some (z.2.2.1 128))))))))]) (tr := [(kc0, .object "java/lang/Object")]) (wz := [(h2, .inl (kc0, 10, .inr (.inr (.inr (.inr (va_up (fun _ => none) 0 (some (z.2.2.1 128)))))))), (h0, .inr (1, [.int 0, .int (-1), .int 2, .ref h1])), (h1, .inr (0, [.int 2, .ref h2, .int 1]))]) (tz := [(kc0, .object "java/lang/Object")]) hP hD hK [0, 1] [2] [0] rfl rfl (by decide) (by decide) rfl hk3 hF1 hB3.1 ht3 hvm3 rfl rfl
  have hG : s.heap.size + 0 ≤ H3.size := Nat.le_trans hG hz3
  refine lv_aload_n hx hb dJx35411_next_0502b_4 rfl (lv_at hl 0 rfl) ?_
  refine va_get (D := (dC, dI)) (ci := 1) (v := .int 0) (C := RJx35411) (T := TJx35411) (N := 4) hx hb hts in_Jx35411 hown hK hP 1 rfl rfl 0 (by decide) (hts _ q_259) (fun _ h9 => h9) rfl dJx35411_next_0502b_5 ?_
  refine lv_istore_n (lv' := [(1, .int 0), (0, .ref h0)]) hx hb dJx35411_next_0502b_8 rfl hl (by decide) rfl (fun ls hl => ?_)
  refine lv_iload_n hx hb dJx35411_next_0502b_9 rfl (lv_at hl 0 rfl) ?_
  refine lv_aload_n hx hb dJx35411_next_0502b_10 rfl (lv_at hl 1 rfl) ?_
  refine va_get (D := (dC, dI)) (ci := 1) (v := .ref h1) (C := RJx35411) (T := TJx35411) (N := 4) hx hb hts in_Jx35411 hown hK hP 1 rfl rfl 3 (by decide) (hts _ q_247) (fun _ h9 => h9) rfl dJx35411_next_0502b_11 ?_
  refine va_getN (D := (dC, dI)) (ci := 0) (v := .int 1) (C := RJx4a65c) (T := TJx4a65c) (N := 3) hx hb hts in_Jx4a65c hown hK hP 2 rfl rfl 2 (by decide) (va_Nw.use rfl hT.2.2.2.2.1) (fun _ h9 => h9) rfl dJx35411_next_0502b_14 ?_
  refine lv_icmp_lt (tgt := 28) hx hb dJx35411_next_0502b_17 (by decide) (fun _ => ?_) (fun cz => absurd (by decide) cz)
  refine lv_aload_n hx hb dJx35411_next_0502b_28 rfl (lv_at hl 1 rfl) ?_
  refine va_get (D := (dC, dI)) (ci := 1) (v := .ref h1) (C := RJx35411) (T := TJx35411) (N := 4) hx hb hts in_Jx35411 hown hK hP 1 rfl rfl 3 (by decide) (hts _ q_247) (fun _ h9 => h9) rfl dJx35411_next_0502b_29 ?_
  refine va_get (D := (dC, dI)) (ci := 0) (v := .ref h2) (C := RJx4a65c) (T := TJx4a65c) (N := 3) hx hb hts in_Jx4a65c hown hK hP 2 rfl rfl 1 (by decide) (hts _ q_306) (fun _ h9 => h9) rfl dJx35411_next_0502b_32 ?_
  refine lv_astore_n (lv' := [(2, .ref h2), (1, .int 0), (0, .ref h0)]) hx hb dJx35411_next_0502b_35 rfl hl (by decide) rfl (fun ls hl => ?_)
  refine lv_iload_n hx hb dJx35411_next_0502b_36 rfl (lv_at hl 1 rfl) ?_
  refine lv_aload_n hx hb dJx35411_next_0502b_37 rfl (lv_at hl 0 rfl) ?_
  refine va_alen hx hb hK hP 0 0 rfl rfl (v := 10) rfl dJx35411_next_0502b_38 ?_
  refine lv_icmp_lt (tgt := 50) hx hb dJx35411_next_0502b_39 (by decide) (fun _ => ?_) (fun cz => absurd (by decide) cz)
  refine lv_aload_n hx hb dJx35411_next_0502b_50 rfl (lv_at hl 2 rfl) ?_
  refine lv_iload_n hx hb dJx35411_next_0502b_51 rfl (lv_at hl 1 rfl) ?_
  refine lv_iconst (v := 1) hx hb dJx35411_next_0502b_52 (by decide) ?_
  refine lv_iadd hx hb dJx35411_next_0502b_53 ?_
  refine lv_topi (fun y5 ey5 => ?_)
  obtain rfl : y5 = 1 := ey5.trans (by decide)
  refine va_put (D := (dC, dI)) (ci := 1) (v := .int 1) (ty := .int) (C := RJx35411) (T := TJx35411) (N := 4) hx hb hts in_Jx35411 tyJx35411 tyJx35411_ok nmJx35411 hown hK hP hD (va_Sre hS) 1 rfl rfl 0 (by decide) (hts _ q_259) (fun _ h9 => h9) rfl (by decide +kernel) rfl rfl (Nat.le_of_ble_eq_true rfl) dJx35411_next_0502b_54 (fun H6 _ hP hD hS' => ?_)
  have hG : s.heap.size + 0 ≤ H6.size := Nat.le_trans hG hS'.1
  have hS := va_Str hS hS'
  have hP : va_P (dC, dI) xCl [(h2, .inl (kc0, 10, .inr (.inr (.inr (.inr (va_up (fun _ => none) 0 (some (z.2.2.1 128)))))))), (h0, .inr (1, [.int 1, .int (-1), .int 2, .ref h1])), (h1, .inr (0, [.int 2, .ref h2, .int 1]))] H6 := hP
  have hD : va_D A [(h2, .inl (kc0, 10, .inr (.inr (.inr (.inr (va_up (fun _ => none) 0 (some (z.2.2.1 128)))))))), (h0, .inr (1, [.int 1, .int (-1), .int 2, .ref h1])), (h1, .inr (0, [.int 2, .ref h2, .int 1]))] := hD
  refine lv_aload_n hx hb dJx35411_next_0502b_57 rfl (lv_at hl 0 rfl) ?_
  refine lv_aload_n hx hb dJx35411_next_0502b_58 rfl (lv_at hl 2 rfl) ?_
  refine lv_iload_n hx hb dJx35411_next_0502b_59 rfl (lv_at hl 1 rfl) ?_
  refine lv_dup_x1 hx hb dJx35411_next_0502b_60 rfl rfl ?_
  refine va_put (D := (dC, dI)) (ci := 1) (v := .int 0) (ty := .int) (C := RJx35411) (T := TJx35411) (N := 4) hx hb hts in_Jx35411 tyJx35411 tyJx35411_ok nmJx35411 hown hK hP hD (va_Sre hS) 1 rfl rfl 1 (by decide) (hts _ q_249) (fun _ h9 => h9) rfl (by decide +kernel) rfl rfl (Nat.le_of_ble_eq_true rfl) dJx35411_next_0502b_61 (fun H7 _ hP hD hS' => ?_)
  have hG : s.heap.size + 0 ≤ H7.size := Nat.le_trans hG hS'.1
  have hS := va_Str hS hS'
  have hP : va_P (dC, dI) xCl [(h2, .inl (kc0, 10, .inr (.inr (.inr (.inr (va_up (fun _ => none) 0 (some (z.2.2.1 128)))))))), (h0, .inr (1, [.int 1, .int 0, .int 2, .ref h1])), (h1, .inr (0, [.int 2, .ref h2, .int 1]))] H7 := hP
  have hD : va_D A [(h2, .inl (kc0, 10, .inr (.inr (.inr (.inr (va_up (fun _ => none) 0 (some (z.2.2.1 128)))))))), (h0, .inr (1, [.int 1, .int 0, .int 2, .ref h1])), (h1, .inr (0, [.int 2, .ref h2, .int 1]))] := hD
  refine va_aldq hx hb hK hP 0 0 rfl rfl (i := 0) (by unfold vp_in; decide) dJx35411_next_0502b_64 ?_
  refine W.eq (g2 := F0 m 65 ls [.ref (z.2.2.1 128)]) rfl ?_
  exact W.aret (v := .ref (z.2.2.1 128)) hx hb hr (by first | exact Or.inl ⟨_, rfl⟩ | exact Or.inr ⟨_, rfl⟩) (Or.inr ⟨_, rfl⟩) (fun t9 ht9 hW9 => ⟨⟨(), (z.2.2.1 128), rfl, trivial, ⟨rfl, ⟨pq_mk (wc := [(h0, .inr (1, [.int 1, .int 0, .int 2, .ref h1])), (h1, .inr (0, [.int 2, .ref h2, .int 1])), (h2, .inl (kc0, 10, .inr (.inr (.inr (.inr (va_up (fun _ => none) 0 (some (z.2.2.1 128))))))))]) (tc := [(kc0, .object "java/lang/Object")]) hP hD hK [1, 2, 0] [0] rfl rfl rfl rfl ht9 hW9, by rw [ht9]; exact Nat.le_trans (Nat.add_le_add_left (Nat.le_of_ble_eq_true rfl) _) hG⟩⟩⟩, hS.F ht9⟩) hS.2.2 dJx35411_next_0502b_65

set_option maxHeartbeats 4000000 in
set_option maxRecDepth 100000 in
theorem k74_intValue (l : Launch) (hl9 : l.stackTraces = false) (dC : Nat → ClassId) (dI : Nat → Nat → Nat) (z : XZ) (sz : Nat) : Met l yJ6_intValue_8abf5 (.code yJ6_intValue_8abf5 cJ6_intValue_8abf5 1 (some .int) :: wsL_law) ({ frames := 0, cells := 0, slots := 0, locals := 0 }) (va_Pc [.ref (z.2.2.1 128)] (PC (dC, dI) [] [] sz z)) (va_Qi (fun (r : Int32) (_ : Unit) => r = 0) (fun (_ : Unit) (t : State) => PG (dC, dI) [] [] (va_A [] sz) sz 0 t) (va_A [] sz)) 0 0 (va_A [] sz) := by
  refine Met.ofW (cc := cJ6_intValue_8abf5) (maxL := 1) (ret := (some .int)) (by decide) rfl ?_
  intro p e s m args below meth c s₁ B hml hv
  obtain ⟨rfl, hsz, hP, hK, hD0, hX, hT⟩ := hv
  have hx := B.exec
  have hb := B.bytes
  have hr := B.returns
  have hts0 := atoms_spec (ws := .code yJ6_intValue_8abf5 cJ6_intValue_8abf5 1 (some .int) :: wsL_law) B.pre
  have hts := xTail hts0
  have hown : s.vm.findClass RJ6 = some m.cls := findClass_of_methodNamed B.named
  have hlocks := B.notSynchronized
  subst hsz
  have hD := hD0.self (sz := s.heap.size)
  generalize hAe : va_A [] s.heap.size = A at hD hX ⊢
  have hA : ∀ q : Nat, s.heap.size ≤ q → A q := fun q h => by rw [← hAe]; exact Or.inr h
  have hS : va_S A s.heap s.heap [] := va_S.rf
  have hG : s.heap.size + 0 ≤ s.heap.size := Nat.le_refl _
  have hl := lv_entry ([.ref (z.2.2.1 128)]) (n := 1) (Nat.le_of_ble_eq_true rfl)
  rw [lg_entry_eq]
  generalize (lg_sl ([.ref (z.2.2.1 128)]) ++ List.replicate (1 - (lg_sl ([.ref (z.2.2.1 128)])).length) Slot.unset).toArray = ls at hl ⊢
  have hl : lv_has ls 1 [(0, .ref (z.2.2.1 128))] := hl
  refine lv_aload_n hx hb dJ6_intValue_8abf5_0 rfl (lv_at hl 0 rfl) ?_
  refine va_getX (own := RJ6) (ref := "java/lang/Integer") hx hb hX.2.2.1.1.2 (i := 128) (by decide) hS hown (hts _ q_321) (fun _ h9 => h9) dJ6_intValue_8abf5_1 ?_
  refine W.eq (g2 := F0 m 4 ls [.int 0]) rfl ?_
  exact W.iret (v := 0) hx hb hr (fun t9 ht9 hW9 => ⟨⟨0, (), rfl, rfl, ⟨pq_mk (wc := []) (tc := []) hP hD hK [] [] rfl rfl rfl rfl ht9 hW9, by rw [ht9]; exact Nat.le_trans (Nat.add_le_add_left (Nat.le_of_ble_eq_true rfl) _) hG⟩⟩, hS.F ht9⟩) hS.2.2 dJ6_intValue_8abf5_4

set_option maxHeartbeats 4000000 in
set_option maxRecDepth 100000 in
theorem k75_hasNext (l : Launch) (hl9 : l.stackTraces = false) (dC : Nat → ClassId) (dI : Nat → Nat → Nat) (z : XZ) (h0 h1 : Nat) (o0 : Nat) (sz : Nat) : Met l yJx35411_hasNext_aae02 (.code yJx35411_hasNext_aae02 cJx35411_hasNext_aae02 1 (some .boolean) :: wsL_law) ({ frames := 0, cells := 0, slots := 0, locals := 0 }) (va_Pc [.ref h0] (PC (dC, dI) [(h0, .inr (1, [.int 1, .int 0, .int 2, .ref h1])), (h1, .inr (0, [.int 2, .ref o0, .int 1]))] [] sz z)) (va_Qi (fun (r : Int32) (_ : Unit) => r = 0) (fun (_ : Unit) (t : State) => PG (dC, dI) [(h0, .inr (1, [.int 1, .int 0, .int 2, .ref h1])), (h1, .inr (0, [.int 2, .ref o0, .int 1]))] [] (va_A [(h0, .inr (1, [.int 1, .int 0, .int 2, .ref h1])), (h1, .inr (0, [.int 2, .ref o0, .int 1]))] sz) sz 0 t) (va_A [(h0, .inr (1, [.int 1, .int 0, .int 2, .ref h1])), (h1, .inr (0, [.int 2, .ref o0, .int 1]))] sz)) 0 0 (va_A [(h0, .inr (1, [.int 1, .int 0, .int 2, .ref h1])), (h1, .inr (0, [.int 2, .ref o0, .int 1]))] sz) := by
  refine Met.ofW (cc := cJx35411_hasNext_aae02) (maxL := 1) (ret := (some .boolean)) (by decide) rfl ?_
  intro p e s m args below meth c s₁ B hml hv
  obtain ⟨rfl, hsz, hP, hK, hD0, hX, hT⟩ := hv
  have hx := B.exec
  have hb := B.bytes
  have hr := B.returns
  have hts0 := atoms_spec (ws := .code yJx35411_hasNext_aae02 cJx35411_hasNext_aae02 1 (some .boolean) :: wsL_law) B.pre
  have hts := xTail hts0
  have hown : s.vm.findClass RJx35411 = some m.cls := findClass_of_methodNamed B.named
  have hlocks := B.notSynchronized
  subst hsz
  have hD := hD0.self (sz := s.heap.size)
  generalize hAe : va_A [(h0, .inr (1, [.int 1, .int 0, .int 2, .ref h1])), (h1, .inr (0, [.int 2, .ref o0, .int 1]))] s.heap.size = A at hD hX ⊢
  have hA : ∀ q : Nat, s.heap.size ≤ q → A q := fun q h => by rw [← hAe]; exact Or.inr h
  have hS : va_S A s.heap s.heap [] := va_S.rf
  have hG : s.heap.size + 0 ≤ s.heap.size := Nat.le_refl _
  have hl := lv_entry ([.ref h0]) (n := 1) (Nat.le_of_ble_eq_true rfl)
  rw [lg_entry_eq]
  generalize (lg_sl ([.ref h0]) ++ List.replicate (1 - (lg_sl ([.ref h0])).length) Slot.unset).toArray = ls at hl ⊢
  have hl : lv_has ls 1 [(0, .ref h0)] := hl
  refine lv_aload_n hx hb dJx35411_hasNext_aae02_0 rfl (lv_at hl 0 rfl) ?_
  refine va_get (D := (dC, dI)) (ci := 1) (v := .int 1) (C := RJx35411) (T := TJx35411) (N := 4) hx hb hts in_Jx35411 hown hK hP 0 rfl rfl 0 (by decide) (hts _ q_259) (fun _ h9 => h9) rfl dJx35411_hasNext_aae02_1 ?_
  refine lv_aload_n hx hb dJx35411_hasNext_aae02_4 rfl (lv_at hl 0 rfl) ?_
  refine va_get (D := (dC, dI)) (ci := 1) (v := .ref h1) (C := RJx35411) (T := TJx35411) (N := 4) hx hb hts in_Jx35411 hown hK hP 0 rfl rfl 3 (by decide) (hts _ q_247) (fun _ h9 => h9) rfl dJx35411_hasNext_aae02_5 ?_
  refine va_getN (D := (dC, dI)) (ci := 0) (v := .int 1) (C := RJx4a65c) (T := TJx4a65c) (N := 3) hx hb hts in_Jx4a65c hown hK hP 1 rfl rfl 2 (by decide) (va_Nw.use rfl hT.2.2.2.2.1) (fun _ h9 => h9) rfl dJx35411_hasNext_aae02_8 ?_
  refine lv_icmp_eq (tgt := 18) hx hb dJx35411_hasNext_aae02_11 (by decide) (fun _ => ?_) (fun cz => absurd (by decide) cz)
  refine lv_iconst (v := 0) hx hb dJx35411_hasNext_aae02_18 (by decide) ?_
  exact W.zret (v := 0) (ty := .boolean) hx hb hr rfl (fun t9 ht9 hW9 => ⟨⟨0, (), rfl, rfl, ⟨pq_mk (wc := [(h0, .inr (1, [.int 1, .int 0, .int 2, .ref h1])), (h1, .inr (0, [.int 2, .ref o0, .int 1]))]) (tc := []) hP hD hK [0, 1] [] rfl rfl rfl rfl ht9 hW9, by rw [ht9]; exact Nat.le_trans (Nat.add_le_add_left (Nat.le_of_ble_eq_true rfl) _) hG⟩⟩, hS.F ht9⟩) hS.2.2 dJx35411_hasNext_aae02_19
