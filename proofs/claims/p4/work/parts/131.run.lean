set_option maxHeartbeats 4000000 in
set_option maxRecDepth 100000 in
theorem k438_putInOrder (l : Launch) (hl9 : l.stackTraces = false) (dC : Nat → ClassId) (dI : Nat → Nat → Nat) (z : XZ) (h0 h1 h2 h3 h4 : Nat) (o0 o1 : Nat) (sz : Nat) (kc0 : ClassId) : Met l yX9_putInOrder (.code yX9_putInOrder cX9_putInOrder 6 none :: wsL_law) ({ frames := 3, cells := 6, slots := 60, locals := 57 }) (va_Pc [.ref h0] (PC (dC, dI) [(h0, .inr (8, [.int 0, .ref h1, .ref h2, .ref o0, .ref h3, .int 0])), (h1, .inr (0, [.int 5, .ref o1, .int 5])), (h2, .inr (0, [.int 0, .ref z.1, .int 0])), (h3, .inr (0, [.int 14, .ref h4, .int 4])), (h4, .inl (kc0, 10, .inr (.inr (.inr (.inr (va_up (va_up (va_up (va_up (fun _ => none) 0 (some (z.2.2.1 128))) 1 (some (z.2.2.1 129))) 2 (some (z.2.2.1 130))) 3 (some (z.2.2.1 131))))))))] [(kc0, .object "java/lang/Object")] sz z)) (va_Qv (fun (_ : Unit) => True) (fun (_ : Unit) (t : State) => PG (dC, dI) [(h0, .inr (8, [.int 0, .ref h1, .ref h2, .ref o0, .ref h3, .int 0])), (h1, .inr (0, [.int 5, .ref o1, .int 5])), (h2, .inr (0, [.int 0, .ref z.1, .int 0])), (h3, .inr (0, [.int 20, .ref h4, .int 5])), (h4, .inl (kc0, 10, .inr (.inr (.inr (.inr (va_up (va_up (va_up (va_up (va_up (fun _ => none) 0 (some (z.2.2.1 128))) 1 (some (z.2.2.1 129))) 2 (some (z.2.2.1 130))) 3 (some (z.2.2.1 131))) 4 (some (z.2.2.1 132))))))))] [(kc0, .object "java/lang/Object")] (va_A [(h0, .inr (8, [.int 0, .ref h1, .ref h2, .ref o0, .ref h3, .int 0])), (h1, .inr (0, [.int 5, .ref o1, .int 5])), (h2, .inr (0, [.int 0, .ref z.1, .int 0])), (h3, .inr (0, [.int 14, .ref h4, .int 4])), (h4, .inl (kc0, 10, .inr (.inr (.inr (.inr (va_up (va_up (va_up (va_up (fun _ => none) 0 (some (z.2.2.1 128))) 1 (some (z.2.2.1 129))) 2 (some (z.2.2.1 130))) 3 (some (z.2.2.1 131))))))))] sz) sz 6 t) (va_A [(h0, .inr (8, [.int 0, .ref h1, .ref h2, .ref o0, .ref h3, .int 0])), (h1, .inr (0, [.int 5, .ref o1, .int 5])), (h2, .inr (0, [.int 0, .ref z.1, .int 0])), (h3, .inr (0, [.int 14, .ref h4, .int 4])), (h4, .inl (kc0, 10, .inr (.inr (.inr (.inr (va_up (va_up (va_up (va_up (fun _ => none) 0 (some (z.2.2.1 128))) 1 (some (z.2.2.1 129))) 2 (some (z.2.2.1 130))) 3 (some (z.2.2.1 131))))))))] sz)) 6 60 (va_A [(h0, .inr (8, [.int 0, .ref h1, .ref h2, .ref o0, .ref h3, .int 0])), (h1, .inr (0, [.int 5, .ref o1, .int 5])), (h2, .inr (0, [.int 0, .ref z.1, .int 0])), (h3, .inr (0, [.int 14, .ref h4, .int 4])), (h4, .inl (kc0, 10, .inr (.inr (.inr (.inr (va_up (va_up (va_up (va_up (fun _ => none) 0 (some (z.2.2.1 128))) 1 (some (z.2.2.1 129))) 2 (some (z.2.2.1 130))) 3 (some (z.2.2.1 131))))))))] sz) := by
  refine Met.ofW (cc := cX9_putInOrder) (maxL := 6) (ret := none) (by decide) rfl ?_
  intro p e s m args below meth c s₁ B hml hv
  obtain ⟨rfl, hsz, hP, hK, hD0, hX, hT⟩ := hv
  have hx := B.exec
  have hb := B.bytes
  have hr := B.returns
  have hts0 := atoms_spec (ws := .code yX9_putInOrder cX9_putInOrder 6 none :: wsL_law) B.pre
  have hts := xTail hts0
  have hown : s.vm.findClass RX9 = some m.cls := findClass_of_methodNamed B.named
  have hlocks := B.notSynchronized
  subst hsz
  have hD := hD0.self (sz := s.heap.size)
  generalize hAe : va_A [(h0, .inr (8, [.int 0, .ref h1, .ref h2, .ref o0, .ref h3, .int 0])), (h1, .inr (0, [.int 5, .ref o1, .int 5])), (h2, .inr (0, [.int 0, .ref z.1, .int 0])), (h3, .inr (0, [.int 14, .ref h4, .int 4])), (h4, .inl (kc0, 10, .inr (.inr (.inr (.inr (va_up (va_up (va_up (va_up (fun _ => none) 0 (some (z.2.2.1 128))) 1 (some (z.2.2.1 129))) 2 (some (z.2.2.1 130))) 3 (some (z.2.2.1 131))))))))] s.heap.size = A at hD hX ⊢
  have hA : ∀ q : Nat, s.heap.size ≤ q → A q := fun q h => by rw [← hAe]; exact Or.inr h
  have hS : va_S A s.heap s.heap [] := va_S.rf
  have hG : s.heap.size + 0 ≤ s.heap.size := Nat.le_refl _
  have hl := lv_entry ([.ref h0]) (n := 6) (Nat.le_of_ble_eq_true rfl)
  rw [lg_entry_eq]
  generalize (lg_sl ([.ref h0]) ++ List.replicate (6 - (lg_sl ([.ref h0])).length) Slot.unset).toArray = ls at hl ⊢
  have hl : lv_has ls 6 [(0, .ref h0)] := hl
  refine lv_bipush (v := 40) hx hb dX9_putInOrder_0 (by decide) ?_
  refine xa_newa (atype := .boolean) hx hb (hts _ q_290) rfl hK hP hD hS hA (n := 40) (N' := 40) (a0 := (40, .inl (fun _ => 0))) (fun _ => rfl) (by decide) (by decide) (Nat.le_of_ble_eq_true rfl) (Nat.le_of_ble_eq_true rfl) (Nat.le_of_ble_eq_true rfl) dX9_putInOrder_2 (fun a1 k2 H3 hg8 hK hP hD hS => ?_)
  have hG : s.heap.size + 1 ≤ H3.size := by rw [hg8]; exact Nat.succ_le_succ hG
  have hK : va_K (dC, dI) xCl [(kc0, .object "java/lang/Object"), (k2, .boolean)] s := hK
  have hP : va_P (dC, dI) xCl [(h0, .inr (8, [.int 0, .ref h1, .ref h2, .ref o0, .ref h3, .int 0])), (h1, .inr (0, [.int 5, .ref o1, .int 5])), (h2, .inr (0, [.int 0, .ref z.1, .int 0])), (h3, .inr (0, [.int 14, .ref h4, .int 4])), (h4, .inl (kc0, 10, .inr (.inr (.inr (.inr (va_up (va_up (va_up (va_up (fun _ => none) 0 (some (z.2.2.1 128))) 1 (some (z.2.2.1 129))) 2 (some (z.2.2.1 130))) 3 (some (z.2.2.1 131)))))))), (a1, .inl (k2, 40, .inl (fun _ => 0)))] H3 := hP
  have hD : va_D A [(h0, .inr (8, [.int 0, .ref h1, .ref h2, .ref o0, .ref h3, .int 0])), (h1, .inr (0, [.int 5, .ref o1, .int 5])), (h2, .inr (0, [.int 0, .ref z.1, .int 0])), (h3, .inr (0, [.int 14, .ref h4, .int 4])), (h4, .inl (kc0, 10, .inr (.inr (.inr (.inr (va_up (va_up (va_up (va_up (fun _ => none) 0 (some (z.2.2.1 128))) 1 (some (z.2.2.1 129))) 2 (some (z.2.2.1 130))) 3 (some (z.2.2.1 131)))))))), (a1, .inl (k2, 40, .inl (fun _ => 0)))] := hD
  refine W.widen (k := 1) (n := 40) (by decide) (by decide) ?_
  refine lv_astore_n (lv' := [(1, .ref a1), (0, .ref h0)]) hx hb dX9_putInOrder_4 rfl hl (by decide) rfl (fun ls hl => ?_)
  refine lv_aload_n hx hb dX9_putInOrder_5 rfl (lv_at hl 1 rfl) ?_
  refine va_get (D := (dC, dI)) (ci := 8) (v := .ref h3) (C := RX9) (T := TX9) (N := 6) hx hb hts in_X9 hown hK hP 0 rfl rfl 4 (by decide) (hts _ q_67) (fun _ h9 => h9) rfl dX9_putInOrder_6 ?_
  have hF4 := va_free (wc := [(h3, .inr (0, [.int 14, .ref h4, .int 4])), (h4, .inl (kc0, 10, .inr (.inr (.inr (.inr (va_up (va_up (va_up (va_up (fun _ => none) 0 (some (z.2.2.1 128))) 1 (some (z.2.2.1 129))) 2 (some (z.2.2.1 130))) 3 (some (z.2.2.1 131))))))))]) hD hS hA [3, 4] rfl
  refine va_callv (va_runV (As := []) (rest := []) ⟨hx, hb, hml, hown, hts⟩ (k426_clear l hl9 dC dI z h3 h4 H3.size kc0) (cwV 0 hts (gV q_291 q_141 q_142 q_12 q_139) rfl rfl rfl (by decide +kernel) ⟨Nat.le_of_ble_eq_true rfl, Nat.le_of_ble_eq_true rfl⟩) ⟨pc_blind, va_recv hK hP (ci := 0) (q0 := 3) rfl rfl, fun U hU hW => ⟨rfl, pc_mk hP hD hK hS hX hT [3, 4] [0] rfl rfl rfl rfl hF4 hU hW⟩⟩ rfl rfl hl.1 rfl (lv_room (Nat.le_of_ble_eq_true rfl)) dX9_putInOrder_9 ⟨(Nat.le_of_ble_eq_true rfl), (Nat.le_of_ble_eq_true rfl)⟩) hS (fun q9 _ h9 => hF4 q9 h9) hF4 (fun u6 t6 H6 L6 ht6 hvm6 hw6 hB6 hz6 hk6 hS => ?_)
  obtain ⟨hP, hD, hK⟩ := pq_join (wr := [(h0, .inr (8, [.int 0, .ref h1, .ref h2, .ref o0, .ref h3, .int 0])), (h1, .inr (0, [.int 5, .ref o1, .int 5])), (h2, .inr (0, [.int 0, .ref z.1, .int 0])), (a1, .inl (k2, 40, .inl (fun _ => 0)))]) (tr := [(k2, .boolean)]) (wz := [(h0, .inr (8, [.int 0, .ref h1, .ref h2, .ref o0, .ref h3, .int 0])), (h1, .inr (0, [.int 5, .ref o1, .int 5])), (h2, .inr (0, [.int 0, .ref z.1, .int 0])), (a1, .inl (k2, 40, .inl (fun _ => 0))), (h3, .inr (0, [.int 15, .ref h4, .int 0])), (h4, .inl (kc0, 10, .inr (.inr (.inr (.inr (va_up (va_up (va_up (va_up (fun _ => none) 0 none) 1 none) 2 none) 3 none))))))]) (tz := [(k2, .boolean), (kc0, .object "java/lang/Object")]) hP hD hK [3, 4] [0, 1, 2, 5] [1] rfl rfl (by decide) (by decide) rfl hk6 hF4 hB6.1 ht6 hvm6 rfl rfl
  have hG : s.heap.size + 1 ≤ H6.size := Nat.le_trans hG hz6
  refine lv_aload_n hx hb dX9_putInOrder_12 rfl (lv_at hl 1 rfl) ?_
  refine va_get (D := (dC, dI)) (ci := 8) (v := .ref h3) (C := RX9) (T := TX9) (N := 6) hx hb hts in_X9 hown hK hP 0 rfl rfl 4 (by decide) (hts _ q_67) (fun _ h9 => h9) rfl dX9_putInOrder_13 ?_
  have hF8 := va_free (wc := [(h3, .inr (0, [.int 15, .ref h4, .int 0]))]) hD hS hA [4] rfl
  refine va_calli (va_runV (As := []) (rest := []) ⟨hx, hb, hml, hown, hts⟩ (k20_size l hl9 dC dI z h3 h4 H6.size 15 0) (cwV 0 hts (gV q_272 q_77 q_78 q_12 q_75) rfl rfl rfl (by decide +kernel) ⟨Nat.le_of_ble_eq_true rfl, Nat.le_of_ble_eq_true rfl⟩) ⟨pc_blind, va_recv hK hP (ci := 0) (q0 := 4) rfl rfl, fun U hU hW => ⟨rfl, pc_mk hP hD hK hS hX hT [4] [] rfl rfl rfl rfl hF8 hU hW⟩⟩ rfl rfl hl.1 rfl (lv_room (Nat.le_of_ble_eq_true rfl)) dX9_putInOrder_16 ⟨(Nat.le_of_ble_eq_true rfl), (Nat.le_of_ble_eq_true rfl)⟩) hS (fun q9 _ h9 => hF8 q9 h9) hF8 (fun r11 u10 t10 H10 L10 ht10 hvm10 hw10 hB10 hz10 hk10 hS => ?_)
  obtain ⟨hP, hD, hK⟩ := pq_join (wr := [(h0, .inr (8, [.int 0, .ref h1, .ref h2, .ref o0, .ref h3, .int 0])), (h1, .inr (0, [.int 5, .ref o1, .int 5])), (h2, .inr (0, [.int 0, .ref z.1, .int 0])), (a1, .inl (k2, 40, .inl (fun _ => 0))), (h4, .inl (kc0, 10, .inr (.inr (.inr (.inr (va_up (va_up (va_up (va_up (fun _ => none) 0 none) 1 none) 2 none) 3 none))))))]) (tr := [(k2, .boolean), (kc0, .object "java/lang/Object")]) (wz := [(h0, .inr (8, [.int 0, .ref h1, .ref h2, .ref o0, .ref h3, .int 0])), (h1, .inr (0, [.int 5, .ref o1, .int 5])), (h2, .inr (0, [.int 0, .ref z.1, .int 0])), (a1, .inl (k2, 40, .inl (fun _ => 0))), (h4, .inl (kc0, 10, .inr (.inr (.inr (.inr (va_up (va_up (va_up (va_up (fun _ => none) 0 none) 1 none) 2 none) 3 none)))))), (h3, .inr (0, [.int 15, .ref h4, .int 0]))]) (tz := [(k2, .boolean), (kc0, .object "java/lang/Object")]) hP hD hK [4] [0, 1, 2, 3, 5] [0, 1] rfl rfl (by decide) (by decide) rfl hk10 hF8 hB10.1 ht10 hvm10 rfl rfl
  have hG : s.heap.size + 1 ≤ H10.size := Nat.le_trans hG hz10
  refine W.eq (g2 := F0 m 19 ls [.int 0]) (by rw [hw10]) ?_
  refine lv_aload_n hx hb dX9_putInOrder_19 rfl (lv_at hl 1 rfl) ?_
  refine va_get (D := (dC, dI)) (ci := 8) (v := .ref h1) (C := RX9) (T := TX9) (N := 6) hx hb hts in_X9 hown hK hP 0 rfl rfl 1 (by decide) (hts _ q_64) (fun _ h9 => h9) rfl dX9_putInOrder_20 ?_
  have hF12 := va_free (wc := [(h1, .inr (0, [.int 5, .ref o1, .int 5]))]) hD hS hA [1] rfl
  refine va_calli (va_runV (As := []) (rest := [.int 0]) ⟨hx, hb, hml, hown, hts⟩ (k20_size l hl9 dC dI z h1 o1 H10.size 5 5) (cwV 0 hts (gV q_272 q_77 q_78 q_12 q_75) rfl rfl rfl (by decide +kernel) ⟨Nat.le_of_ble_eq_true rfl, Nat.le_of_ble_eq_true rfl⟩) ⟨pc_blind, va_recv hK hP (ci := 0) (q0 := 1) rfl rfl, fun U hU hW => ⟨rfl, pc_mk hP hD hK hS hX hT [1] [] rfl rfl rfl rfl hF12 hU hW⟩⟩ rfl rfl hl.1 rfl (lv_room (Nat.le_of_ble_eq_true rfl)) dX9_putInOrder_23 ⟨(Nat.le_of_ble_eq_true rfl), (Nat.le_of_ble_eq_true rfl)⟩) hS (fun q9 _ h9 => hF12 q9 h9) hF12 (fun r15 u14 t14 H14 L14 ht14 hvm14 hw14 hB14 hz14 hk14 hS => ?_)
  obtain ⟨hP, hD, hK⟩ := pq_join (wr := [(h0, .inr (8, [.int 0, .ref h1, .ref h2, .ref o0, .ref h3, .int 0])), (h2, .inr (0, [.int 0, .ref z.1, .int 0])), (a1, .inl (k2, 40, .inl (fun _ => 0))), (h4, .inl (kc0, 10, .inr (.inr (.inr (.inr (va_up (va_up (va_up (va_up (fun _ => none) 0 none) 1 none) 2 none) 3 none)))))), (h3, .inr (0, [.int 15, .ref h4, .int 0]))]) (tr := [(k2, .boolean), (kc0, .object "java/lang/Object")]) (wz := [(h0, .inr (8, [.int 0, .ref h1, .ref h2, .ref o0, .ref h3, .int 0])), (h2, .inr (0, [.int 0, .ref z.1, .int 0])), (a1, .inl (k2, 40, .inl (fun _ => 0))), (h4, .inl (kc0, 10, .inr (.inr (.inr (.inr (va_up (va_up (va_up (va_up (fun _ => none) 0 none) 1 none) 2 none) 3 none)))))), (h3, .inr (0, [.int 15, .ref h4, .int 0])), (h1, .inr (0, [.int 5, .ref o1, .int 5]))]) (tz := [(k2, .boolean), (kc0, .object "java/lang/Object")]) hP hD hK [1] [0, 2, 3, 4, 5] [0, 1] rfl rfl (by decide) (by decide) rfl hk14 hF12 hB14.1 ht14 hvm14 rfl rfl
  have hG : s.heap.size + 1 ≤ H14.size := Nat.le_trans hG hz14
  refine W.eq (g2 := F0 m 26 ls [.int 5, .int 0]) (by rw [hw14]) ?_
  refine lv_icmp_ge (tgt := 165) hx hb dX9_putInOrder_26 (by decide) (fun cz => absurd cz (by decide)) (fun _ => ?_)
  refine lv_iconst (v := 0) hx hb dX9_putInOrder_29 (by decide) ?_
  refine lv_istore_n (lv' := [(2, .int 0), (1, .ref a1), (0, .ref h0)]) hx hb dX9_putInOrder_30 rfl hl (by decide) rfl (fun ls hl => ?_)
  refine lv_iload_n hx hb dX9_putInOrder_31 rfl (lv_at hl 0 rfl) ?_
  refine lv_aload_n hx hb dX9_putInOrder_32 rfl (lv_at hl 2 rfl) ?_
  refine va_get (D := (dC, dI)) (ci := 8) (v := .ref h1) (C := RX9) (T := TX9) (N := 6) hx hb hts in_X9 hown hK hP 0 rfl rfl 1 (by decide) (hts _ q_64) (fun _ h9 => h9) rfl dX9_putInOrder_33 ?_
  have hF16 := va_free (wc := [(h1, .inr (0, [.int 5, .ref o1, .int 5]))]) hD hS hA [5] rfl
  refine va_calli (va_runV (As := []) (rest := [.int 0]) ⟨hx, hb, hml, hown, hts⟩ (k20_size l hl9 dC dI z h1 o1 H14.size 5 5) (cwV 0 hts (gV q_272 q_77 q_78 q_12 q_75) rfl rfl rfl (by decide +kernel) ⟨Nat.le_of_ble_eq_true rfl, Nat.le_of_ble_eq_true rfl⟩) ⟨pc_blind, va_recv hK hP (ci := 0) (q0 := 5) rfl rfl, fun U hU hW => ⟨rfl, pc_mk hP hD hK hS hX hT [5] [] rfl rfl rfl rfl hF16 hU hW⟩⟩ rfl rfl hl.1 rfl (lv_room (Nat.le_of_ble_eq_true rfl)) dX9_putInOrder_36 ⟨(Nat.le_of_ble_eq_true rfl), (Nat.le_of_ble_eq_true rfl)⟩) hS (fun q9 _ h9 => hF16 q9 h9) hF16 (fun r19 u18 t18 H18 L18 ht18 hvm18 hw18 hB18 hz18 hk18 hS => ?_)
  obtain ⟨hP, hD, hK⟩ := pq_join (wr := [(h0, .inr (8, [.int 0, .ref h1, .ref h2, .ref o0, .ref h3, .int 0])), (h2, .inr (0, [.int 0, .ref z.1, .int 0])), (a1, .inl (k2, 40, .inl (fun _ => 0))), (h4, .inl (kc0, 10, .inr (.inr (.inr (.inr (va_up (va_up (va_up (va_up (fun _ => none) 0 none) 1 none) 2 none) 3 none)))))), (h3, .inr (0, [.int 15, .ref h4, .int 0]))]) (tr := [(k2, .boolean), (kc0, .object "java/lang/Object")]) (wz := [(h0, .inr (8, [.int 0, .ref h1, .ref h2, .ref o0, .ref h3, .int 0])), (h2, .inr (0, [.int 0, .ref z.1, .int 0])), (a1, .inl (k2, 40, .inl (fun _ => 0))), (h4, .inl (kc0, 10, .inr (.inr (.inr (.inr (va_up (va_up (va_up (va_up (fun _ => none) 0 none) 1 none) 2 none) 3 none)))))), (h3, .inr (0, [.int 15, .ref h4, .int 0])), (h1, .inr (0, [.int 5, .ref o1, .int 5]))]) (tz := [(k2, .boolean), (kc0, .object "java/lang/Object")]) hP hD hK [5] [0, 1, 2, 3, 4] [0, 1] rfl rfl (by decide) (by decide) rfl hk18 hF16 hB18.1 ht18 hvm18 rfl rfl
  have hG : s.heap.size + 1 ≤ H18.size := Nat.le_trans hG hz18
  refine W.eq (g2 := F0 m 39 ls [.int 5, .int 0]) (by rw [hw18]) ?_
  refine lv_icmp_ge (tgt := 162) hx hb dX9_putInOrder_39 (by decide) (fun cz => absurd cz (by decide)) (fun _ => ?_)
  refine lv_aload_n hx hb dX9_putInOrder_42 rfl (lv_at hl 1 rfl) ?_
  refine lv_iload_n hx hb dX9_putInOrder_43 rfl (lv_at hl 0 rfl) ?_
  refine va_zald hx hb hK hP 2 0 rfl rfl (i := 0) (by unfold vp_in; decide) dX9_putInOrder_44 ?_
  refine W.eq (g2 := F0 m 45 ls [.int 0]) rfl ?_
  refine lv_if_ne (tgt := 52) hx hb dX9_putInOrder_45 (by decide) (fun cz => absurd (by decide) cz) (fun _ => ?_)
  refine lv_iconst (v := 1) hx hb dX9_putInOrder_48 (by decide) ?_
  refine lv_goto (tgt := 53) hx hb dX9_putInOrder_49 (by decide) ?_
  refine lv_istore_n (lv' := [(3, .int 1), (2, .int 0), (1, .ref a1), (0, .ref h0)]) hx hb dX9_putInOrder_53 rfl hl (by decide) rfl (fun ls hl => ?_)
  refine lv_aload_n hx hb dX9_putInOrder_54 rfl (lv_at hl 3 rfl) ?_
  refine va_get (D := (dC, dI)) (ci := 8) (v := .ref h2) (C := RX9) (T := TX9) (N := 6) hx hb hts in_X9 hown hK hP 0 rfl rfl 2 (by decide) (hts _ q_65) (fun _ h9 => h9) rfl dX9_putInOrder_55 ?_
  have hF20 := va_free (wc := [(h2, .inr (0, [.int 0, .ref z.1, .int 0]))]) hD hS hA [1] rfl
  refine va_callr (va_runV (As := []) (rest := []) ⟨hx, hb, hml, hown, hts⟩ (k49_iterator l hl9 dC dI z h2 H18.size) (cwV 0 hts (gV q_256 q_257 q_258 q_12 q_255) rfl rfl rfl (by decide +kernel) ⟨Nat.le_of_ble_eq_true rfl, Nat.le_of_ble_eq_true rfl⟩) ⟨pc_blind, va_recv hK hP (ci := 0) (q0 := 1) rfl rfl, fun U hU hW => ⟨rfl, pc_mk hP hD hK hS hX hT [1] [] rfl rfl rfl rfl hF20 hU hW⟩⟩ rfl rfl hl.1 rfl (lv_room (Nat.le_of_ble_eq_true rfl)) dX9_putInOrder_58 ⟨(Nat.le_of_ble_eq_true rfl), (Nat.le_of_ble_eq_true rfl)⟩) hS (fun q9 _ h9 => hF20 q9 h9) hF20 (fun u22 r23 t22 H22 L22 ht22 hvm22 hw22 hB22 hz22 hk22 hS => ?_)
  obtain ⟨a24, hr22, hB22⟩ := hB22
  obtain ⟨hP, hD, hK⟩ := pq_join (wr := [(h0, .inr (8, [.int 0, .ref h1, .ref h2, .ref o0, .ref h3, .int 0])), (a1, .inl (k2, 40, .inl (fun _ => 0))), (h4, .inl (kc0, 10, .inr (.inr (.inr (.inr (va_up (va_up (va_up (va_up (fun _ => none) 0 none) 1 none) 2 none) 3 none)))))), (h3, .inr (0, [.int 15, .ref h4, .int 0])), (h1, .inr (0, [.int 5, .ref o1, .int 5]))]) (tr := [(k2, .boolean), (kc0, .object "java/lang/Object")]) (wz := [(h0, .inr (8, [.int 0, .ref h1, .ref h2, .ref o0, .ref h3, .int 0])), (a1, .inl (k2, 40, .inl (fun _ => 0))), (h4, .inl (kc0, 10, .inr (.inr (.inr (.inr (va_up (va_up (va_up (va_up (fun _ => none) 0 none) 1 none) 2 none) 3 none)))))), (h3, .inr (0, [.int 15, .ref h4, .int 0])), (h1, .inr (0, [.int 5, .ref o1, .int 5])), (h2, .inr (0, [.int 0, .ref z.1, .int 0])), (a24, .inr (1, [.int 0, .int (-1), .int 0, .ref h2]))]) (tz := [(k2, .boolean), (kc0, .object "java/lang/Object")]) hP hD hK [1] [0, 2, 3, 4, 5] [0, 1] rfl rfl (by decide) (by decide) rfl hk22 hF20 hB22.1 ht22 hvm22 rfl rfl
  have hG : s.heap.size + 2 ≤ H22.size := va_gr (g := 1) (g1 := 1) hG (by rw [← ht22]; exact hB22.2)
  refine W.eq (g2 := F0 m 61 ls [.ref a24]) (by rw [hr22]) ?_
  refine W.widen (k := 2) (n := 44) (by decide) (by decide) ?_
  refine lv_astore (lv' := [(4, .ref a24), (3, .int 1), (2, .int 0), (1, .ref a1), (0, .ref h0)]) hx hb dX9_putInOrder_61 hl (by decide) rfl (fun ls hl => ?_)
  refine lv_aload hx hb dX9_putInOrder_63 (lv_at hl 0 rfl) ?_
  have hF25 := va_free (wc := [(a24, .inr (1, [.int 0, .int (-1), .int 0, .ref h2])), (h2, .inr (0, [.int 0, .ref z.1, .int 0]))]) hD hS hA [6, 5] rfl
  refine va_callFi (va_runF (As := []) (rest := []) (hK.1 1 _ rfl).2 ⟨hx, hb, hml, hown, hts⟩ (k50_hasNext l hl9 dC dI z a24 h2 H22.size) (va_cwF 0 hts (gF q_261 q_262 q_263 q_246 q_260) rfl rfl rfl hT.2.2.2.2.2.2.1 (by decide +kernel) ⟨Nat.le_of_ble_eq_true rfl, Nat.le_of_ble_eq_true rfl⟩) ⟨pc_blind, va_recv hK hP (ci := 1) (q0 := 6) rfl rfl, fun U hU hW => ⟨rfl, pc_mk hP hD hK hS hX hT [6, 5] [] rfl rfl rfl rfl hF25 hU hW⟩⟩ rfl rfl hl.1 rfl (lv_room (Nat.le_of_ble_eq_true rfl)) dX9_putInOrder_65 ⟨(Nat.le_of_ble_eq_true rfl), (Nat.le_of_ble_eq_true rfl)⟩) hS (fun q9 _ h9 => hF25 q9 h9) hF25 (fun r28 u27 t27 H27 L27 ht27 hvm27 hw27 hB27 hz27 hk27 hS => ?_)
  obtain ⟨hP, hD, hK⟩ := pq_join (wr := [(h0, .inr (8, [.int 0, .ref h1, .ref h2, .ref o0, .ref h3, .int 0])), (a1, .inl (k2, 40, .inl (fun _ => 0))), (h4, .inl (kc0, 10, .inr (.inr (.inr (.inr (va_up (va_up (va_up (va_up (fun _ => none) 0 none) 1 none) 2 none) 3 none)))))), (h3, .inr (0, [.int 15, .ref h4, .int 0])), (h1, .inr (0, [.int 5, .ref o1, .int 5]))]) (tr := [(k2, .boolean), (kc0, .object "java/lang/Object")]) (wz := [(h0, .inr (8, [.int 0, .ref h1, .ref h2, .ref o0, .ref h3, .int 0])), (a1, .inl (k2, 40, .inl (fun _ => 0))), (h4, .inl (kc0, 10, .inr (.inr (.inr (.inr (va_up (va_up (va_up (va_up (fun _ => none) 0 none) 1 none) 2 none) 3 none)))))), (h3, .inr (0, [.int 15, .ref h4, .int 0])), (h1, .inr (0, [.int 5, .ref o1, .int 5])), (a24, .inr (1, [.int 0, .int (-1), .int 0, .ref h2])), (h2, .inr (0, [.int 0, .ref z.1, .int 0]))]) (tz := [(k2, .boolean), (kc0, .object "java/lang/Object")]) hP hD hK [6, 5] [0, 1, 2, 3, 4] [0, 1] rfl rfl (by decide) (by decide) rfl hk27 hF25 hB27.1 ht27 hvm27 rfl rfl
  have hG : s.heap.size + 2 ≤ H27.size := Nat.le_trans hG hz27
  refine W.eq (g2 := F0 m 70 ls [.int 0]) (by rw [hw27]) ?_
  refine lv_if_eq (tgt := 136) hx hb dX9_putInOrder_70 (by decide) (fun _ => ?_) (fun cz => absurd (by decide) cz)
  refine lv_iload_n hx hb dX9_putInOrder_136 rfl (lv_at hl 1 rfl) ?_
  refine lv_if_eq (tgt := 156) hx hb dX9_putInOrder_137 (by decide) (fun cz => absurd cz (by decide)) (fun _ => ?_)
  refine lv_aload_n hx hb dX9_putInOrder_140 rfl (lv_at hl 3 rfl) ?_
  refine lv_iload_n hx hb dX9_putInOrder_141 rfl (lv_at hl 2 rfl) ?_
  refine lv_iconst (v := 1) hx hb dX9_putInOrder_142 (by decide) ?_
  refine va_zast hx hb hK hP hD (va_Sre hS) 1 0 rfl rfl (i := 0) (by unfold vp_in; decide) dX9_putInOrder_143 (fun H29 _ hP hD hS' => ?_)
  have hG : s.heap.size + 2 ≤ H29.size := Nat.le_trans hG hS'.1
  have hS := va_Str hS hS'
  have hP : va_P (dC, dI) xCl [(h0, .inr (8, [.int 0, .ref h1, .ref h2, .ref o0, .ref h3, .int 0])), (a1, .inl (k2, 40, .inl (upd (fun _ => 0) 0 1))), (h4, .inl (kc0, 10, .inr (.inr (.inr (.inr (va_up (va_up (va_up (va_up (fun _ => none) 0 none) 1 none) 2 none) 3 none)))))), (h3, .inr (0, [.int 15, .ref h4, .int 0])), (h1, .inr (0, [.int 5, .ref o1, .int 5])), (a24, .inr (1, [.int 0, .int (-1), .int 0, .ref h2])), (h2, .inr (0, [.int 0, .ref z.1, .int 0]))] H29 := hP
  have hD : va_D A [(h0, .inr (8, [.int 0, .ref h1, .ref h2, .ref o0, .ref h3, .int 0])), (a1, .inl (k2, 40, .inl (upd (fun _ => 0) 0 1))), (h4, .inl (kc0, 10, .inr (.inr (.inr (.inr (va_up (va_up (va_up (va_up (fun _ => none) 0 none) 1 none) 2 none) 3 none)))))), (h3, .inr (0, [.int 15, .ref h4, .int 0])), (h1, .inr (0, [.int 5, .ref o1, .int 5])), (a24, .inr (1, [.int 0, .int (-1), .int 0, .ref h2])), (h2, .inr (0, [.int 0, .ref z.1, .int 0]))] := hD
  refine lv_aload_n hx hb dX9_putInOrder_144 rfl (lv_at hl 4 rfl) ?_
  refine va_get (D := (dC, dI)) (ci := 8) (v := .ref h3) (C := RX9) (T := TX9) (N := 6) hx hb hts in_X9 hown hK hP 0 rfl rfl 4 (by decide) (hts _ q_67) (fun _ h9 => h9) rfl dX9_putInOrder_145 ?_
  refine lv_iload_n hx hb dX9_putInOrder_148 rfl (lv_at hl 2 rfl) ?_
  have hF30 := va_free (wc := []) hD hS hA [] rfl
  refine va_callr (va_runS (As := [.int 0]) (rest := [.ref h3]) ⟨hx, hb, hml, hown, hts⟩ (k58_valueOf l hl9 dC dI z H29.size) (va_cwS 1 hts (gS q_295 q_296 q_297 q_294) rfl rfl rfl (by decide +kernel) ⟨Nat.le_of_ble_eq_true rfl, Nat.le_of_ble_eq_true rfl⟩) ⟨pc_blind, fun U hU hW => ⟨rfl, pc_mk hP hD hK hS hX hT [] [] rfl rfl rfl rfl hF30 hU hW⟩⟩ rfl rfl hl.1 rfl (lv_room (Nat.le_of_ble_eq_true rfl)) dX9_putInOrder_149 ⟨(Nat.le_of_ble_eq_true rfl), (Nat.le_of_ble_eq_true rfl)⟩) hS (fun q9 _ h9 => hF30 q9 h9) hF30 (fun u32 r33 t32 H32 L32 ht32 hvm32 hw32 hB32 hz32 hk32 hS => ?_)
  obtain ⟨hr32, hB32⟩ := hB32
  obtain ⟨hP, hD, hK⟩ := pq_join (wr := [(h0, .inr (8, [.int 0, .ref h1, .ref h2, .ref o0, .ref h3, .int 0])), (a1, .inl (k2, 40, .inl (upd (fun _ => 0) 0 1))), (h4, .inl (kc0, 10, .inr (.inr (.inr (.inr (va_up (va_up (va_up (va_up (fun _ => none) 0 none) 1 none) 2 none) 3 none)))))), (h3, .inr (0, [.int 15, .ref h4, .int 0])), (h1, .inr (0, [.int 5, .ref o1, .int 5])), (a24, .inr (1, [.int 0, .int (-1), .int 0, .ref h2])), (h2, .inr (0, [.int 0, .ref z.1, .int 0]))]) (tr := [(k2, .boolean), (kc0, .object "java/lang/Object")]) (wz := [(h0, .inr (8, [.int 0, .ref h1, .ref h2, .ref o0, .ref h3, .int 0])), (a1, .inl (k2, 40, .inl (upd (fun _ => 0) 0 1))), (h4, .inl (kc0, 10, .inr (.inr (.inr (.inr (va_up (va_up (va_up (va_up (fun _ => none) 0 none) 1 none) 2 none) 3 none)))))), (h3, .inr (0, [.int 15, .ref h4, .int 0])), (h1, .inr (0, [.int 5, .ref o1, .int 5])), (a24, .inr (1, [.int 0, .int (-1), .int 0, .ref h2])), (h2, .inr (0, [.int 0, .ref z.1, .int 0]))]) (tz := [(k2, .boolean), (kc0, .object "java/lang/Object")]) hP hD hK [] [0, 1, 2, 3, 4, 5, 6] [0, 1] rfl rfl (by decide) (by decide) rfl hk32 hF30 hB32.1 ht32 hvm32 rfl rfl
  have hG : s.heap.size + 2 ≤ H32.size := Nat.le_trans hG hz32
  refine W.eq (g2 := F0 m 152 ls [.ref (z.2.2.1 128), .ref h3]) (by rw [hr32]) ?_
  have hF34 := va_free (wc := [(h3, .inr (0, [.int 15, .ref h4, .int 0])), (h4, .inl (kc0, 10, .inr (.inr (.inr (.inr (va_up (va_up (va_up (va_up (fun _ => none) 0 none) 1 none) 2 none) 3 none))))))]) hD hS hA [3, 2] rfl
  refine va_calli (va_runV (As := [.ref (z.2.2.1 128)]) (rest := []) ⟨hx, hb, hml, hown, hts⟩ (k428_add l hl9 dC dI z h3 h4 H32.size kc0) (cwV 1 hts (gV q_284 q_128 q_129 q_12 q_126) rfl rfl rfl (by decide +kernel) ⟨Nat.le_of_ble_eq_true rfl, Nat.le_of_ble_eq_true rfl⟩) ⟨pc_blind, va_recv hK hP (ci := 0) (q0 := 3) rfl rfl, fun U hU hW => ⟨rfl, pc_mk hP hD hK hS hX hT [3, 2] [1] rfl rfl rfl rfl hF34 hU hW⟩⟩ rfl rfl hl.1 rfl (lv_room (Nat.le_of_ble_eq_true rfl)) dX9_putInOrder_152 ⟨(Nat.le_of_ble_eq_true rfl), (Nat.le_of_ble_eq_true rfl)⟩) hS (fun q9 _ h9 => hF34 q9 h9) hF34 (fun r37 u36 t36 H36 L36 ht36 hvm36 hw36 hB36 hz36 hk36 hS => ?_)
  obtain ⟨hP, hD, hK⟩ := pq_join (wr := [(h0, .inr (8, [.int 0, .ref h1, .ref h2, .ref o0, .ref h3, .int 0])), (a1, .inl (k2, 40, .inl (upd (fun _ => 0) 0 1))), (h1, .inr (0, [.int 5, .ref o1, .int 5])), (a24, .inr (1, [.int 0, .int (-1), .int 0, .ref h2])), (h2, .inr (0, [.int 0, .ref z.1, .int 0]))]) (tr := [(k2, .boolean)]) (wz := [(h0, .inr (8, [.int 0, .ref h1, .ref h2, .ref o0, .ref h3, .int 0])), (a1, .inl (k2, 40, .inl (upd (fun _ => 0) 0 1))), (h1, .inr (0, [.int 5, .ref o1, .int 5])), (a24, .inr (1, [.int 0, .int (-1), .int 0, .ref h2])), (h2, .inr (0, [.int 0, .ref z.1, .int 0])), (h3, .inr (0, [.int 16, .ref h4, .int 1])), (h4, .inl (kc0, 10, .inr (.inr (.inr (.inr (va_up (va_up (va_up (va_up (fun _ => none) 0 (some (z.2.2.1 128))) 1 none) 2 none) 3 none))))))]) (tz := [(k2, .boolean), (kc0, .object "java/lang/Object")]) hP hD hK [3, 2] [0, 1, 4, 5, 6] [0] rfl rfl (by decide) (by decide) rfl hk36 hF34 hB36.1 ht36 hvm36 rfl rfl
  have hG : s.heap.size + 2 ≤ H36.size := Nat.le_trans hG hz36
  refine W.eq (g2 := F0 m 155 ls [.int 1]) (by rw [hw36]) ?_
  refine lv_pop hx hb dX9_putInOrder_155 rfl ?_
  refine lv_iinc (v := 1) (lv' := [(2, .int 1), (4, .ref a24), (3, .int 1), (1, .ref a1), (0, .ref h0)]) hx hb dX9_putInOrder_156 hl (k := 2) rfl (by decide) (by decide) rfl (fun ls hl => ?_)
  refine lv_goto (tgt := 31) hx hb dX9_putInOrder_159 (by decide) ?_
  refine lv_iload_n hx hb dX9_putInOrder_31 rfl (lv_at hl 0 rfl) ?_
  refine lv_aload_n hx hb dX9_putInOrder_32 rfl (lv_at hl 4 rfl) ?_
  refine va_get (D := (dC, dI)) (ci := 8) (v := .ref h1) (C := RX9) (T := TX9) (N := 6) hx hb hts in_X9 hown hK hP 0 rfl rfl 1 (by decide) (hts _ q_64) (fun _ h9 => h9) rfl dX9_putInOrder_33 ?_
  have hF38 := va_free (wc := [(h1, .inr (0, [.int 5, .ref o1, .int 5]))]) hD hS hA [2] rfl
  refine va_calli (va_runV (As := []) (rest := [.int 1]) ⟨hx, hb, hml, hown, hts⟩ (k20_size l hl9 dC dI z h1 o1 H36.size 5 5) (cwV 0 hts (gV q_272 q_77 q_78 q_12 q_75) rfl rfl rfl (by decide +kernel) ⟨Nat.le_of_ble_eq_true rfl, Nat.le_of_ble_eq_true rfl⟩) ⟨pc_blind, va_recv hK hP (ci := 0) (q0 := 2) rfl rfl, fun U hU hW => ⟨rfl, pc_mk hP hD hK hS hX hT [2] [] rfl rfl rfl rfl hF38 hU hW⟩⟩ rfl rfl hl.1 rfl (lv_room (Nat.le_of_ble_eq_true rfl)) dX9_putInOrder_36 ⟨(Nat.le_of_ble_eq_true rfl), (Nat.le_of_ble_eq_true rfl)⟩) hS (fun q9 _ h9 => hF38 q9 h9) hF38 (fun r41 u40 t40 H40 L40 ht40 hvm40 hw40 hB40 hz40 hk40 hS => ?_)
  obtain ⟨hP, hD, hK⟩ := pq_join (wr := [(h0, .inr (8, [.int 0, .ref h1, .ref h2, .ref o0, .ref h3, .int 0])), (a1, .inl (k2, 40, .inl (upd (fun _ => 0) 0 1))), (a24, .inr (1, [.int 0, .int (-1), .int 0, .ref h2])), (h2, .inr (0, [.int 0, .ref z.1, .int 0])), (h3, .inr (0, [.int 16, .ref h4, .int 1])), (h4, .inl (kc0, 10, .inr (.inr (.inr (.inr (va_up (va_up (va_up (va_up (fun _ => none) 0 (some (z.2.2.1 128))) 1 none) 2 none) 3 none))))))]) (tr := [(k2, .boolean), (kc0, .object "java/lang/Object")]) (wz := [(h0, .inr (8, [.int 0, .ref h1, .ref h2, .ref o0, .ref h3, .int 0])), (a1, .inl (k2, 40, .inl (upd (fun _ => 0) 0 1))), (a24, .inr (1, [.int 0, .int (-1), .int 0, .ref h2])), (h2, .inr (0, [.int 0, .ref z.1, .int 0])), (h3, .inr (0, [.int 16, .ref h4, .int 1])), (h4, .inl (kc0, 10, .inr (.inr (.inr (.inr (va_up (va_up (va_up (va_up (fun _ => none) 0 (some (z.2.2.1 128))) 1 none) 2 none) 3 none)))))), (h1, .inr (0, [.int 5, .ref o1, .int 5]))]) (tz := [(k2, .boolean), (kc0, .object "java/lang/Object")]) hP hD hK [2] [0, 1, 3, 4, 5, 6] [0, 1] rfl rfl (by decide) (by decide) rfl hk40 hF38 hB40.1 ht40 hvm40 rfl rfl
  have hG : s.heap.size + 2 ≤ H40.size := Nat.le_trans hG hz40
  refine W.eq (g2 := F0 m 39 ls [.int 5, .int 1]) (by rw [hw40]) ?_
  refine lv_icmp_ge (tgt := 162) hx hb dX9_putInOrder_39 (by decide) (fun cz => absurd cz (by decide)) (fun _ => ?_)
  refine lv_aload_n hx hb dX9_putInOrder_42 rfl (lv_at hl 3 rfl) ?_
  refine lv_iload_n hx hb dX9_putInOrder_43 rfl (lv_at hl 0 rfl) ?_
  refine va_zald hx hb hK hP 1 0 rfl rfl (i := 1) (by unfold vp_in; decide) dX9_putInOrder_44 ?_
  refine W.eq (g2 := F0 m 45 ls [.int 0]) rfl ?_
  refine lv_if_ne (tgt := 52) hx hb dX9_putInOrder_45 (by decide) (fun cz => absurd (by decide) cz) (fun _ => ?_)
  refine lv_iconst (v := 1) hx hb dX9_putInOrder_48 (by decide) ?_
  refine lv_goto (tgt := 53) hx hb dX9_putInOrder_49 (by decide) ?_
  refine lv_istore_n (lv' := [(3, .int 1), (2, .int 1), (4, .ref a24), (1, .ref a1), (0, .ref h0)]) hx hb dX9_putInOrder_53 rfl hl (by decide) rfl (fun ls hl => ?_)
  refine lv_aload_n hx hb dX9_putInOrder_54 rfl (lv_at hl 4 rfl) ?_
  refine va_get (D := (dC, dI)) (ci := 8) (v := .ref h2) (C := RX9) (T := TX9) (N := 6) hx hb hts in_X9 hown hK hP 0 rfl rfl 2 (by decide) (hts _ q_65) (fun _ h9 => h9) rfl dX9_putInOrder_55 ?_
  have hF42 := va_free (wc := [(h2, .inr (0, [.int 0, .ref z.1, .int 0]))]) hD hS hA [3] rfl
  refine va_callr (va_runV (As := []) (rest := []) ⟨hx, hb, hml, hown, hts⟩ (k49_iterator l hl9 dC dI z h2 H40.size) (cwV 0 hts (gV q_256 q_257 q_258 q_12 q_255) rfl rfl rfl (by decide +kernel) ⟨Nat.le_of_ble_eq_true rfl, Nat.le_of_ble_eq_true rfl⟩) ⟨pc_blind, va_recv hK hP (ci := 0) (q0 := 3) rfl rfl, fun U hU hW => ⟨rfl, pc_mk hP hD hK hS hX hT [3] [] rfl rfl rfl rfl hF42 hU hW⟩⟩ rfl rfl hl.1 rfl (lv_room (Nat.le_of_ble_eq_true rfl)) dX9_putInOrder_58 ⟨(Nat.le_of_ble_eq_true rfl), (Nat.le_of_ble_eq_true rfl)⟩) hS (fun q9 _ h9 => hF42 q9 h9) hF42 (fun u44 r45 t44 H44 L44 ht44 hvm44 hw44 hB44 hz44 hk44 hS => ?_)
  obtain ⟨a46, hr44, hB44⟩ := hB44
  obtain ⟨hP, hD, hK⟩ := pq_join (wr := [(h0, .inr (8, [.int 0, .ref h1, .ref h2, .ref o0, .ref h3, .int 0])), (a1, .inl (k2, 40, .inl (upd (fun _ => 0) 0 1))), (a24, .inr (1, [.int 0, .int (-1), .int 0, .ref h2])), (h3, .inr (0, [.int 16, .ref h4, .int 1])), (h4, .inl (kc0, 10, .inr (.inr (.inr (.inr (va_up (va_up (va_up (va_up (fun _ => none) 0 (some (z.2.2.1 128))) 1 none) 2 none) 3 none)))))), (h1, .inr (0, [.int 5, .ref o1, .int 5]))]) (tr := [(k2, .boolean), (kc0, .object "java/lang/Object")]) (wz := [(h0, .inr (8, [.int 0, .ref h1, .ref h2, .ref o0, .ref h3, .int 0])), (a1, .inl (k2, 40, .inl (upd (fun _ => 0) 0 1))), (a24, .inr (1, [.int 0, .int (-1), .int 0, .ref h2])), (h3, .inr (0, [.int 16, .ref h4, .int 1])), (h4, .inl (kc0, 10, .inr (.inr (.inr (.inr (va_up (va_up (va_up (va_up (fun _ => none) 0 (some (z.2.2.1 128))) 1 none) 2 none) 3 none)))))), (h1, .inr (0, [.int 5, .ref o1, .int 5])), (h2, .inr (0, [.int 0, .ref z.1, .int 0])), (a46, .inr (1, [.int 0, .int (-1), .int 0, .ref h2]))]) (tz := [(k2, .boolean), (kc0, .object "java/lang/Object")]) hP hD hK [3] [0, 1, 2, 4, 5, 6] [0, 1] rfl rfl (by decide) (by decide) rfl hk44 hF42 hB44.1 ht44 hvm44 rfl rfl
  have hG : s.heap.size + 3 ≤ H44.size := va_gr (g := 2) (g1 := 1) hG (by rw [← ht44]; exact hB44.2)
  refine W.eq (g2 := F0 m 61 ls [.ref a46]) (by rw [hr44]) ?_
  refine W.widen (k := 3) (n := 48) (by decide) (by decide) ?_
  refine lv_astore (lv' := [(4, .ref a46), (3, .int 1), (2, .int 1), (1, .ref a1), (0, .ref h0)]) hx hb dX9_putInOrder_61 hl (by decide) rfl (fun ls hl => ?_)
  refine lv_aload hx hb dX9_putInOrder_63 (lv_at hl 0 rfl) ?_
  have hF47 := va_free (wc := [(a46, .inr (1, [.int 0, .int (-1), .int 0, .ref h2])), (h2, .inr (0, [.int 0, .ref z.1, .int 0]))]) hD hS hA [7, 6] rfl
  refine va_callFi (va_runF (As := []) (rest := []) (hK.1 1 _ rfl).2 ⟨hx, hb, hml, hown, hts⟩ (k50_hasNext l hl9 dC dI z a46 h2 H44.size) (va_cwF 0 hts (gF q_261 q_262 q_263 q_246 q_260) rfl rfl rfl hT.2.2.2.2.2.2.1 (by decide +kernel) ⟨Nat.le_of_ble_eq_true rfl, Nat.le_of_ble_eq_true rfl⟩) ⟨pc_blind, va_recv hK hP (ci := 1) (q0 := 7) rfl rfl, fun U hU hW => ⟨rfl, pc_mk hP hD hK hS hX hT [7, 6] [] rfl rfl rfl rfl hF47 hU hW⟩⟩ rfl rfl hl.1 rfl (lv_room (Nat.le_of_ble_eq_true rfl)) dX9_putInOrder_65 ⟨(Nat.le_of_ble_eq_true rfl), (Nat.le_of_ble_eq_true rfl)⟩) hS (fun q9 _ h9 => hF47 q9 h9) hF47 (fun r50 u49 t49 H49 L49 ht49 hvm49 hw49 hB49 hz49 hk49 hS => ?_)
  obtain ⟨hP, hD, hK⟩ := pq_join (wr := [(h0, .inr (8, [.int 0, .ref h1, .ref h2, .ref o0, .ref h3, .int 0])), (a1, .inl (k2, 40, .inl (upd (fun _ => 0) 0 1))), (a24, .inr (1, [.int 0, .int (-1), .int 0, .ref h2])), (h3, .inr (0, [.int 16, .ref h4, .int 1])), (h4, .inl (kc0, 10, .inr (.inr (.inr (.inr (va_up (va_up (va_up (va_up (fun _ => none) 0 (some (z.2.2.1 128))) 1 none) 2 none) 3 none)))))), (h1, .inr (0, [.int 5, .ref o1, .int 5]))]) (tr := [(k2, .boolean), (kc0, .object "java/lang/Object")]) (wz := [(h0, .inr (8, [.int 0, .ref h1, .ref h2, .ref o0, .ref h3, .int 0])), (a1, .inl (k2, 40, .inl (upd (fun _ => 0) 0 1))), (a24, .inr (1, [.int 0, .int (-1), .int 0, .ref h2])), (h3, .inr (0, [.int 16, .ref h4, .int 1])), (h4, .inl (kc0, 10, .inr (.inr (.inr (.inr (va_up (va_up (va_up (va_up (fun _ => none) 0 (some (z.2.2.1 128))) 1 none) 2 none) 3 none)))))), (h1, .inr (0, [.int 5, .ref o1, .int 5])), (a46, .inr (1, [.int 0, .int (-1), .int 0, .ref h2])), (h2, .inr (0, [.int 0, .ref z.1, .int 0]))]) (tz := [(k2, .boolean), (kc0, .object "java/lang/Object")]) hP hD hK [7, 6] [0, 1, 2, 3, 4, 5] [0, 1] rfl rfl (by decide) (by decide) rfl hk49 hF47 hB49.1 ht49 hvm49 rfl rfl
  have hG : s.heap.size + 3 ≤ H49.size := Nat.le_trans hG hz49
  refine W.eq (g2 := F0 m 70 ls [.int 0]) (by rw [hw49]) ?_
  refine lv_if_eq (tgt := 136) hx hb dX9_putInOrder_70 (by decide) (fun _ => ?_) (fun cz => absurd (by decide) cz)
  refine lv_iload_n hx hb dX9_putInOrder_136 rfl (lv_at hl 1 rfl) ?_
  refine lv_if_eq (tgt := 156) hx hb dX9_putInOrder_137 (by decide) (fun cz => absurd cz (by decide)) (fun _ => ?_)
  refine lv_aload_n hx hb dX9_putInOrder_140 rfl (lv_at hl 3 rfl) ?_
  refine lv_iload_n hx hb dX9_putInOrder_141 rfl (lv_at hl 2 rfl) ?_
  refine lv_iconst (v := 1) hx hb dX9_putInOrder_142 (by decide) ?_
  refine va_zast hx hb hK hP hD (va_Sre hS) 1 0 rfl rfl (i := 1) (by unfold vp_in; decide) dX9_putInOrder_143 (fun H51 _ hP hD hS' => ?_)
  have hG : s.heap.size + 3 ≤ H51.size := Nat.le_trans hG hS'.1
  have hS := va_Str hS hS'
  have hP : va_P (dC, dI) xCl [(h0, .inr (8, [.int 0, .ref h1, .ref h2, .ref o0, .ref h3, .int 0])), (a1, .inl (k2, 40, .inl (upd (upd (fun _ => 0) 0 1) 1 1))), (a24, .inr (1, [.int 0, .int (-1), .int 0, .ref h2])), (h3, .inr (0, [.int 16, .ref h4, .int 1])), (h4, .inl (kc0, 10, .inr (.inr (.inr (.inr (va_up (va_up (va_up (va_up (fun _ => none) 0 (some (z.2.2.1 128))) 1 none) 2 none) 3 none)))))), (h1, .inr (0, [.int 5, .ref o1, .int 5])), (a46, .inr (1, [.int 0, .int (-1), .int 0, .ref h2])), (h2, .inr (0, [.int 0, .ref z.1, .int 0]))] H51 := hP
  have hD : va_D A [(h0, .inr (8, [.int 0, .ref h1, .ref h2, .ref o0, .ref h3, .int 0])), (a1, .inl (k2, 40, .inl (upd (upd (fun _ => 0) 0 1) 1 1))), (a24, .inr (1, [.int 0, .int (-1), .int 0, .ref h2])), (h3, .inr (0, [.int 16, .ref h4, .int 1])), (h4, .inl (kc0, 10, .inr (.inr (.inr (.inr (va_up (va_up (va_up (va_up (fun _ => none) 0 (some (z.2.2.1 128))) 1 none) 2 none) 3 none)))))), (h1, .inr (0, [.int 5, .ref o1, .int 5])), (a46, .inr (1, [.int 0, .int (-1), .int 0, .ref h2])), (h2, .inr (0, [.int 0, .ref z.1, .int 0]))] := hD
  refine lv_aload_n hx hb dX9_putInOrder_144 rfl (lv_at hl 4 rfl) ?_
  refine va_get (D := (dC, dI)) (ci := 8) (v := .ref h3) (C := RX9) (T := TX9) (N := 6) hx hb hts in_X9 hown hK hP 0 rfl rfl 4 (by decide) (hts _ q_67) (fun _ h9 => h9) rfl dX9_putInOrder_145 ?_
  refine lv_iload_n hx hb dX9_putInOrder_148 rfl (lv_at hl 2 rfl) ?_
  have hF52 := va_free (wc := []) hD hS hA [] rfl
  refine va_callr (va_runS (As := [.int 1]) (rest := [.ref h3]) ⟨hx, hb, hml, hown, hts⟩ (k129_valueOf l hl9 dC dI z H51.size) (va_cwS 1 hts (gS q_295 q_296 q_297 q_294) rfl rfl rfl (by decide +kernel) ⟨Nat.le_of_ble_eq_true rfl, Nat.le_of_ble_eq_true rfl⟩) ⟨pc_blind, fun U hU hW => ⟨rfl, pc_mk hP hD hK hS hX hT [] [] rfl rfl rfl rfl hF52 hU hW⟩⟩ rfl rfl hl.1 rfl (lv_room (Nat.le_of_ble_eq_true rfl)) dX9_putInOrder_149 ⟨(Nat.le_of_ble_eq_true rfl), (Nat.le_of_ble_eq_true rfl)⟩) hS (fun q9 _ h9 => hF52 q9 h9) hF52 (fun u54 r55 t54 H54 L54 ht54 hvm54 hw54 hB54 hz54 hk54 hS => ?_)
  obtain ⟨hr54, hB54⟩ := hB54
  obtain ⟨hP, hD, hK⟩ := pq_join (wr := [(h0, .inr (8, [.int 0, .ref h1, .ref h2, .ref o0, .ref h3, .int 0])), (a1, .inl (k2, 40, .inl (upd (upd (fun _ => 0) 0 1) 1 1))), (a24, .inr (1, [.int 0, .int (-1), .int 0, .ref h2])), (h3, .inr (0, [.int 16, .ref h4, .int 1])), (h4, .inl (kc0, 10, .inr (.inr (.inr (.inr (va_up (va_up (va_up (va_up (fun _ => none) 0 (some (z.2.2.1 128))) 1 none) 2 none) 3 none)))))), (h1, .inr (0, [.int 5, .ref o1, .int 5])), (a46, .inr (1, [.int 0, .int (-1), .int 0, .ref h2])), (h2, .inr (0, [.int 0, .ref z.1, .int 0]))]) (tr := [(k2, .boolean), (kc0, .object "java/lang/Object")]) (wz := [(h0, .inr (8, [.int 0, .ref h1, .ref h2, .ref o0, .ref h3, .int 0])), (a1, .inl (k2, 40, .inl (upd (upd (fun _ => 0) 0 1) 1 1))), (a24, .inr (1, [.int 0, .int (-1), .int 0, .ref h2])), (h3, .inr (0, [.int 16, .ref h4, .int 1])), (h4, .inl (kc0, 10, .inr (.inr (.inr (.inr (va_up (va_up (va_up (va_up (fun _ => none) 0 (some (z.2.2.1 128))) 1 none) 2 none) 3 none)))))), (h1, .inr (0, [.int 5, .ref o1, .int 5])), (a46, .inr (1, [.int 0, .int (-1), .int 0, .ref h2])), (h2, .inr (0, [.int 0, .ref z.1, .int 0]))]) (tz := [(k2, .boolean), (kc0, .object "java/lang/Object")]) hP hD hK [] [0, 1, 2, 3, 4, 5, 6, 7] [0, 1] rfl rfl (by decide) (by decide) rfl hk54 hF52 hB54.1 ht54 hvm54 rfl rfl
  have hG : s.heap.size + 3 ≤ H54.size := Nat.le_trans hG hz54
  refine W.eq (g2 := F0 m 152 ls [.ref (z.2.2.1 129), .ref h3]) (by rw [hr54]) ?_
  have hF56 := va_free (wc := [(h3, .inr (0, [.int 16, .ref h4, .int 1])), (h4, .inl (kc0, 10, .inr (.inr (.inr (.inr (va_up (va_up (va_up (va_up (fun _ => none) 0 (some (z.2.2.1 128))) 1 none) 2 none) 3 none))))))]) hD hS hA [3, 4] rfl
  refine va_calli (va_runV (As := [.ref (z.2.2.1 129)]) (rest := []) ⟨hx, hb, hml, hown, hts⟩ (k430_add l hl9 dC dI z h3 h4 H54.size kc0) (cwV 1 hts (gV q_284 q_128 q_129 q_12 q_126) rfl rfl rfl (by decide +kernel) ⟨Nat.le_of_ble_eq_true rfl, Nat.le_of_ble_eq_true rfl⟩) ⟨pc_blind, va_recv hK hP (ci := 0) (q0 := 3) rfl rfl, fun U hU hW => ⟨rfl, pc_mk hP hD hK hS hX hT [3, 4] [1] rfl rfl rfl rfl hF56 hU hW⟩⟩ rfl rfl hl.1 rfl (lv_room (Nat.le_of_ble_eq_true rfl)) dX9_putInOrder_152 ⟨(Nat.le_of_ble_eq_true rfl), (Nat.le_of_ble_eq_true rfl)⟩) hS (fun q9 _ h9 => hF56 q9 h9) hF56 (fun r59 u58 t58 H58 L58 ht58 hvm58 hw58 hB58 hz58 hk58 hS => ?_)
  obtain ⟨hP, hD, hK⟩ := pq_join (wr := [(h0, .inr (8, [.int 0, .ref h1, .ref h2, .ref o0, .ref h3, .int 0])), (a1, .inl (k2, 40, .inl (upd (upd (fun _ => 0) 0 1) 1 1))), (a24, .inr (1, [.int 0, .int (-1), .int 0, .ref h2])), (h1, .inr (0, [.int 5, .ref o1, .int 5])), (a46, .inr (1, [.int 0, .int (-1), .int 0, .ref h2])), (h2, .inr (0, [.int 0, .ref z.1, .int 0]))]) (tr := [(k2, .boolean)]) (wz := [(h0, .inr (8, [.int 0, .ref h1, .ref h2, .ref o0, .ref h3, .int 0])), (a1, .inl (k2, 40, .inl (upd (upd (fun _ => 0) 0 1) 1 1))), (a24, .inr (1, [.int 0, .int (-1), .int 0, .ref h2])), (h1, .inr (0, [.int 5, .ref o1, .int 5])), (a46, .inr (1, [.int 0, .int (-1), .int 0, .ref h2])), (h2, .inr (0, [.int 0, .ref z.1, .int 0])), (h3, .inr (0, [.int 17, .ref h4, .int 2])), (h4, .inl (kc0, 10, .inr (.inr (.inr (.inr (va_up (va_up (va_up (va_up (fun _ => none) 0 (some (z.2.2.1 128))) 1 (some (z.2.2.1 129))) 2 none) 3 none))))))]) (tz := [(k2, .boolean), (kc0, .object "java/lang/Object")]) hP hD hK [3, 4] [0, 1, 2, 5, 6, 7] [0] rfl rfl (by decide) (by decide) rfl hk58 hF56 hB58.1 ht58 hvm58 rfl rfl
  have hG : s.heap.size + 3 ≤ H58.size := Nat.le_trans hG hz58
  refine W.eq (g2 := F0 m 155 ls [.int 1]) (by rw [hw58]) ?_
  refine lv_pop hx hb dX9_putInOrder_155 rfl ?_
  refine lv_iinc (v := 2) (lv' := [(2, .int 2), (4, .ref a46), (3, .int 1), (1, .ref a1), (0, .ref h0)]) hx hb dX9_putInOrder_156 hl (k := 2) rfl (by decide) (by decide) rfl (fun ls hl => ?_)
  refine lv_goto (tgt := 31) hx hb dX9_putInOrder_159 (by decide) ?_
  refine lv_iload_n hx hb dX9_putInOrder_31 rfl (lv_at hl 0 rfl) ?_
  refine lv_aload_n hx hb dX9_putInOrder_32 rfl (lv_at hl 4 rfl) ?_
  refine va_get (D := (dC, dI)) (ci := 8) (v := .ref h1) (C := RX9) (T := TX9) (N := 6) hx hb hts in_X9 hown hK hP 0 rfl rfl 1 (by decide) (hts _ q_64) (fun _ h9 => h9) rfl dX9_putInOrder_33 ?_
  have hF60 := va_free (wc := [(h1, .inr (0, [.int 5, .ref o1, .int 5]))]) hD hS hA [3] rfl
  refine va_calli (va_runV (As := []) (rest := [.int 2]) ⟨hx, hb, hml, hown, hts⟩ (k20_size l hl9 dC dI z h1 o1 H58.size 5 5) (cwV 0 hts (gV q_272 q_77 q_78 q_12 q_75) rfl rfl rfl (by decide +kernel) ⟨Nat.le_of_ble_eq_true rfl, Nat.le_of_ble_eq_true rfl⟩) ⟨pc_blind, va_recv hK hP (ci := 0) (q0 := 3) rfl rfl, fun U hU hW => ⟨rfl, pc_mk hP hD hK hS hX hT [3] [] rfl rfl rfl rfl hF60 hU hW⟩⟩ rfl rfl hl.1 rfl (lv_room (Nat.le_of_ble_eq_true rfl)) dX9_putInOrder_36 ⟨(Nat.le_of_ble_eq_true rfl), (Nat.le_of_ble_eq_true rfl)⟩) hS (fun q9 _ h9 => hF60 q9 h9) hF60 (fun r63 u62 t62 H62 L62 ht62 hvm62 hw62 hB62 hz62 hk62 hS => ?_)
  obtain ⟨hP, hD, hK⟩ := pq_join (wr := [(h0, .inr (8, [.int 0, .ref h1, .ref h2, .ref o0, .ref h3, .int 0])), (a1, .inl (k2, 40, .inl (upd (upd (fun _ => 0) 0 1) 1 1))), (a24, .inr (1, [.int 0, .int (-1), .int 0, .ref h2])), (a46, .inr (1, [.int 0, .int (-1), .int 0, .ref h2])), (h2, .inr (0, [.int 0, .ref z.1, .int 0])), (h3, .inr (0, [.int 17, .ref h4, .int 2])), (h4, .inl (kc0, 10, .inr (.inr (.inr (.inr (va_up (va_up (va_up (va_up (fun _ => none) 0 (some (z.2.2.1 128))) 1 (some (z.2.2.1 129))) 2 none) 3 none))))))]) (tr := [(k2, .boolean), (kc0, .object "java/lang/Object")]) (wz := [(h0, .inr (8, [.int 0, .ref h1, .ref h2, .ref o0, .ref h3, .int 0])), (a1, .inl (k2, 40, .inl (upd (upd (fun _ => 0) 0 1) 1 1))), (a24, .inr (1, [.int 0, .int (-1), .int 0, .ref h2])), (a46, .inr (1, [.int 0, .int (-1), .int 0, .ref h2])), (h2, .inr (0, [.int 0, .ref z.1, .int 0])), (h3, .inr (0, [.int 17, .ref h4, .int 2])), (h4, .inl (kc0, 10, .inr (.inr (.inr (.inr (va_up (va_up (va_up (va_up (fun _ => none) 0 (some (z.2.2.1 128))) 1 (some (z.2.2.1 129))) 2 none) 3 none)))))), (h1, .inr (0, [.int 5, .ref o1, .int 5]))]) (tz := [(k2, .boolean), (kc0, .object "java/lang/Object")]) hP hD hK [3] [0, 1, 2, 4, 5, 6, 7] [0, 1] rfl rfl (by decide) (by decide) rfl hk62 hF60 hB62.1 ht62 hvm62 rfl rfl
  have hG : s.heap.size + 3 ≤ H62.size := Nat.le_trans hG hz62
  refine W.eq (g2 := F0 m 39 ls [.int 5, .int 2]) (by rw [hw62]) ?_
  refine lv_icmp_ge (tgt := 162) hx hb dX9_putInOrder_39 (by decide) (fun cz => absurd cz (by decide)) (fun _ => ?_)
  refine lv_aload_n hx hb dX9_putInOrder_42 rfl (lv_at hl 3 rfl) ?_
  refine lv_iload_n hx hb dX9_putInOrder_43 rfl (lv_at hl 0 rfl) ?_
  refine va_zald hx hb hK hP 1 0 rfl rfl (i := 2) (by unfold vp_in; decide) dX9_putInOrder_44 ?_
  refine W.eq (g2 := F0 m 45 ls [.int 0]) rfl ?_
  refine lv_if_ne (tgt := 52) hx hb dX9_putInOrder_45 (by decide) (fun cz => absurd (by decide) cz) (fun _ => ?_)
  refine lv_iconst (v := 1) hx hb dX9_putInOrder_48 (by decide) ?_
  refine lv_goto (tgt := 53) hx hb dX9_putInOrder_49 (by decide) ?_
  refine lv_istore_n (lv' := [(3, .int 1), (2, .int 2), (4, .ref a46), (1, .ref a1), (0, .ref h0)]) hx hb dX9_putInOrder_53 rfl hl (by decide) rfl (fun ls hl => ?_)
  refine lv_aload_n hx hb dX9_putInOrder_54 rfl (lv_at hl 4 rfl) ?_
  refine va_get (D := (dC, dI)) (ci := 8) (v := .ref h2) (C := RX9) (T := TX9) (N := 6) hx hb hts in_X9 hown hK hP 0 rfl rfl 2 (by decide) (hts _ q_65) (fun _ h9 => h9) rfl dX9_putInOrder_55 ?_
  have hF64 := va_free (wc := [(h2, .inr (0, [.int 0, .ref z.1, .int 0]))]) hD hS hA [4] rfl
  refine va_callr (va_runV (As := []) (rest := []) ⟨hx, hb, hml, hown, hts⟩ (k49_iterator l hl9 dC dI z h2 H62.size) (cwV 0 hts (gV q_256 q_257 q_258 q_12 q_255) rfl rfl rfl (by decide +kernel) ⟨Nat.le_of_ble_eq_true rfl, Nat.le_of_ble_eq_true rfl⟩) ⟨pc_blind, va_recv hK hP (ci := 0) (q0 := 4) rfl rfl, fun U hU hW => ⟨rfl, pc_mk hP hD hK hS hX hT [4] [] rfl rfl rfl rfl hF64 hU hW⟩⟩ rfl rfl hl.1 rfl (lv_room (Nat.le_of_ble_eq_true rfl)) dX9_putInOrder_58 ⟨(Nat.le_of_ble_eq_true rfl), (Nat.le_of_ble_eq_true rfl)⟩) hS (fun q9 _ h9 => hF64 q9 h9) hF64 (fun u66 r67 t66 H66 L66 ht66 hvm66 hw66 hB66 hz66 hk66 hS => ?_)
  obtain ⟨a68, hr66, hB66⟩ := hB66
  obtain ⟨hP, hD, hK⟩ := pq_join (wr := [(h0, .inr (8, [.int 0, .ref h1, .ref h2, .ref o0, .ref h3, .int 0])), (a1, .inl (k2, 40, .inl (upd (upd (fun _ => 0) 0 1) 1 1))), (a24, .inr (1, [.int 0, .int (-1), .int 0, .ref h2])), (a46, .inr (1, [.int 0, .int (-1), .int 0, .ref h2])), (h3, .inr (0, [.int 17, .ref h4, .int 2])), (h4, .inl (kc0, 10, .inr (.inr (.inr (.inr (va_up (va_up (va_up (va_up (fun _ => none) 0 (some (z.2.2.1 128))) 1 (some (z.2.2.1 129))) 2 none) 3 none)))))), (h1, .inr (0, [.int 5, .ref o1, .int 5]))]) (tr := [(k2, .boolean), (kc0, .object "java/lang/Object")]) (wz := [(h0, .inr (8, [.int 0, .ref h1, .ref h2, .ref o0, .ref h3, .int 0])), (a1, .inl (k2, 40, .inl (upd (upd (fun _ => 0) 0 1) 1 1))), (a24, .inr (1, [.int 0, .int (-1), .int 0, .ref h2])), (a46, .inr (1, [.int 0, .int (-1), .int 0, .ref h2])), (h3, .inr (0, [.int 17, .ref h4, .int 2])), (h4, .inl (kc0, 10, .inr (.inr (.inr (.inr (va_up (va_up (va_up (va_up (fun _ => none) 0 (some (z.2.2.1 128))) 1 (some (z.2.2.1 129))) 2 none) 3 none)))))), (h1, .inr (0, [.int 5, .ref o1, .int 5])), (h2, .inr (0, [.int 0, .ref z.1, .int 0])), (a68, .inr (1, [.int 0, .int (-1), .int 0, .ref h2]))]) (tz := [(k2, .boolean), (kc0, .object "java/lang/Object")]) hP hD hK [4] [0, 1, 2, 3, 5, 6, 7] [0, 1] rfl rfl (by decide) (by decide) rfl hk66 hF64 hB66.1 ht66 hvm66 rfl rfl
  have hG : s.heap.size + 4 ≤ H66.size := va_gr (g := 3) (g1 := 1) hG (by rw [← ht66]; exact hB66.2)
  refine W.eq (g2 := F0 m 61 ls [.ref a68]) (by rw [hr66]) ?_
  refine W.widen (k := 4) (n := 52) (by decide) (by decide) ?_
  refine lv_astore (lv' := [(4, .ref a68), (3, .int 1), (2, .int 2), (1, .ref a1), (0, .ref h0)]) hx hb dX9_putInOrder_61 hl (by decide) rfl (fun ls hl => ?_)
  refine lv_aload hx hb dX9_putInOrder_63 (lv_at hl 0 rfl) ?_
  have hF69 := va_free (wc := [(a68, .inr (1, [.int 0, .int (-1), .int 0, .ref h2])), (h2, .inr (0, [.int 0, .ref z.1, .int 0]))]) hD hS hA [8, 7] rfl
  refine va_callFi (va_runF (As := []) (rest := []) (hK.1 1 _ rfl).2 ⟨hx, hb, hml, hown, hts⟩ (k50_hasNext l hl9 dC dI z a68 h2 H66.size) (va_cwF 0 hts (gF q_261 q_262 q_263 q_246 q_260) rfl rfl rfl hT.2.2.2.2.2.2.1 (by decide +kernel) ⟨Nat.le_of_ble_eq_true rfl, Nat.le_of_ble_eq_true rfl⟩) ⟨pc_blind, va_recv hK hP (ci := 1) (q0 := 8) rfl rfl, fun U hU hW => ⟨rfl, pc_mk hP hD hK hS hX hT [8, 7] [] rfl rfl rfl rfl hF69 hU hW⟩⟩ rfl rfl hl.1 rfl (lv_room (Nat.le_of_ble_eq_true rfl)) dX9_putInOrder_65 ⟨(Nat.le_of_ble_eq_true rfl), (Nat.le_of_ble_eq_true rfl)⟩) hS (fun q9 _ h9 => hF69 q9 h9) hF69 (fun r72 u71 t71 H71 L71 ht71 hvm71 hw71 hB71 hz71 hk71 hS => ?_)
  obtain ⟨hP, hD, hK⟩ := pq_join (wr := [(h0, .inr (8, [.int 0, .ref h1, .ref h2, .ref o0, .ref h3, .int 0])), (a1, .inl (k2, 40, .inl (upd (upd (fun _ => 0) 0 1) 1 1))), (a24, .inr (1, [.int 0, .int (-1), .int 0, .ref h2])), (a46, .inr (1, [.int 0, .int (-1), .int 0, .ref h2])), (h3, .inr (0, [.int 17, .ref h4, .int 2])), (h4, .inl (kc0, 10, .inr (.inr (.inr (.inr (va_up (va_up (va_up (va_up (fun _ => none) 0 (some (z.2.2.1 128))) 1 (some (z.2.2.1 129))) 2 none) 3 none)))))), (h1, .inr (0, [.int 5, .ref o1, .int 5]))]) (tr := [(k2, .boolean), (kc0, .object "java/lang/Object")]) (wz := [(h0, .inr (8, [.int 0, .ref h1, .ref h2, .ref o0, .ref h3, .int 0])), (a1, .inl (k2, 40, .inl (upd (upd (fun _ => 0) 0 1) 1 1))), (a24, .inr (1, [.int 0, .int (-1), .int 0, .ref h2])), (a46, .inr (1, [.int 0, .int (-1), .int 0, .ref h2])), (h3, .inr (0, [.int 17, .ref h4, .int 2])), (h4, .inl (kc0, 10, .inr (.inr (.inr (.inr (va_up (va_up (va_up (va_up (fun _ => none) 0 (some (z.2.2.1 128))) 1 (some (z.2.2.1 129))) 2 none) 3 none)))))), (h1, .inr (0, [.int 5, .ref o1, .int 5])), (a68, .inr (1, [.int 0, .int (-1), .int 0, .ref h2])), (h2, .inr (0, [.int 0, .ref z.1, .int 0]))]) (tz := [(k2, .boolean), (kc0, .object "java/lang/Object")]) hP hD hK [8, 7] [0, 1, 2, 3, 4, 5, 6] [0, 1] rfl rfl (by decide) (by decide) rfl hk71 hF69 hB71.1 ht71 hvm71 rfl rfl
  have hG : s.heap.size + 4 ≤ H71.size := Nat.le_trans hG hz71
  refine W.eq (g2 := F0 m 70 ls [.int 0]) (by rw [hw71]) ?_
  refine lv_if_eq (tgt := 136) hx hb dX9_putInOrder_70 (by decide) (fun _ => ?_) (fun cz => absurd (by decide) cz)
  refine lv_iload_n hx hb dX9_putInOrder_136 rfl (lv_at hl 1 rfl) ?_
  refine lv_if_eq (tgt := 156) hx hb dX9_putInOrder_137 (by decide) (fun cz => absurd cz (by decide)) (fun _ => ?_)
  refine lv_aload_n hx hb dX9_putInOrder_140 rfl (lv_at hl 3 rfl) ?_
  refine lv_iload_n hx hb dX9_putInOrder_141 rfl (lv_at hl 2 rfl) ?_
  refine lv_iconst (v := 1) hx hb dX9_putInOrder_142 (by decide) ?_
  refine va_zast hx hb hK hP hD (va_Sre hS) 1 0 rfl rfl (i := 2) (by unfold vp_in; decide) dX9_putInOrder_143 (fun H73 _ hP hD hS' => ?_)
  have hG : s.heap.size + 4 ≤ H73.size := Nat.le_trans hG hS'.1
  have hS := va_Str hS hS'
  have hP : va_P (dC, dI) xCl [(h0, .inr (8, [.int 0, .ref h1, .ref h2, .ref o0, .ref h3, .int 0])), (a1, .inl (k2, 40, .inl (upd (upd (upd (fun _ => 0) 0 1) 1 1) 2 1))), (a24, .inr (1, [.int 0, .int (-1), .int 0, .ref h2])), (a46, .inr (1, [.int 0, .int (-1), .int 0, .ref h2])), (h3, .inr (0, [.int 17, .ref h4, .int 2])), (h4, .inl (kc0, 10, .inr (.inr (.inr (.inr (va_up (va_up (va_up (va_up (fun _ => none) 0 (some (z.2.2.1 128))) 1 (some (z.2.2.1 129))) 2 none) 3 none)))))), (h1, .inr (0, [.int 5, .ref o1, .int 5])), (a68, .inr (1, [.int 0, .int (-1), .int 0, .ref h2])), (h2, .inr (0, [.int 0, .ref z.1, .int 0]))] H73 := hP
  have hD : va_D A [(h0, .inr (8, [.int 0, .ref h1, .ref h2, .ref o0, .ref h3, .int 0])), (a1, .inl (k2, 40, .inl (upd (upd (upd (fun _ => 0) 0 1) 1 1) 2 1))), (a24, .inr (1, [.int 0, .int (-1), .int 0, .ref h2])), (a46, .inr (1, [.int 0, .int (-1), .int 0, .ref h2])), (h3, .inr (0, [.int 17, .ref h4, .int 2])), (h4, .inl (kc0, 10, .inr (.inr (.inr (.inr (va_up (va_up (va_up (va_up (fun _ => none) 0 (some (z.2.2.1 128))) 1 (some (z.2.2.1 129))) 2 none) 3 none)))))), (h1, .inr (0, [.int 5, .ref o1, .int 5])), (a68, .inr (1, [.int 0, .int (-1), .int 0, .ref h2])), (h2, .inr (0, [.int 0, .ref z.1, .int 0]))] := hD
  refine lv_aload_n hx hb dX9_putInOrder_144 rfl (lv_at hl 4 rfl) ?_
  refine va_get (D := (dC, dI)) (ci := 8) (v := .ref h3) (C := RX9) (T := TX9) (N := 6) hx hb hts in_X9 hown hK hP 0 rfl rfl 4 (by decide) (hts _ q_67) (fun _ h9 => h9) rfl dX9_putInOrder_145 ?_
  refine lv_iload_n hx hb dX9_putInOrder_148 rfl (lv_at hl 2 rfl) ?_
  have hF74 := va_free (wc := []) hD hS hA [] rfl
  refine va_callr (va_runS (As := [.int 2]) (rest := [.ref h3]) ⟨hx, hb, hml, hown, hts⟩ (k215_valueOf l hl9 dC dI z H73.size) (va_cwS 1 hts (gS q_295 q_296 q_297 q_294) rfl rfl rfl (by decide +kernel) ⟨Nat.le_of_ble_eq_true rfl, Nat.le_of_ble_eq_true rfl⟩) ⟨pc_blind, fun U hU hW => ⟨rfl, pc_mk hP hD hK hS hX hT [] [] rfl rfl rfl rfl hF74 hU hW⟩⟩ rfl rfl hl.1 rfl (lv_room (Nat.le_of_ble_eq_true rfl)) dX9_putInOrder_149 ⟨(Nat.le_of_ble_eq_true rfl), (Nat.le_of_ble_eq_true rfl)⟩) hS (fun q9 _ h9 => hF74 q9 h9) hF74 (fun u76 r77 t76 H76 L76 ht76 hvm76 hw76 hB76 hz76 hk76 hS => ?_)
  obtain ⟨hr76, hB76⟩ := hB76
  obtain ⟨hP, hD, hK⟩ := pq_join (wr := [(h0, .inr (8, [.int 0, .ref h1, .ref h2, .ref o0, .ref h3, .int 0])), (a1, .inl (k2, 40, .inl (upd (upd (upd (fun _ => 0) 0 1) 1 1) 2 1))), (a24, .inr (1, [.int 0, .int (-1), .int 0, .ref h2])), (a46, .inr (1, [.int 0, .int (-1), .int 0, .ref h2])), (h3, .inr (0, [.int 17, .ref h4, .int 2])), (h4, .inl (kc0, 10, .inr (.inr (.inr (.inr (va_up (va_up (va_up (va_up (fun _ => none) 0 (some (z.2.2.1 128))) 1 (some (z.2.2.1 129))) 2 none) 3 none)))))), (h1, .inr (0, [.int 5, .ref o1, .int 5])), (a68, .inr (1, [.int 0, .int (-1), .int 0, .ref h2])), (h2, .inr (0, [.int 0, .ref z.1, .int 0]))]) (tr := [(k2, .boolean), (kc0, .object "java/lang/Object")]) (wz := [(h0, .inr (8, [.int 0, .ref h1, .ref h2, .ref o0, .ref h3, .int 0])), (a1, .inl (k2, 40, .inl (upd (upd (upd (fun _ => 0) 0 1) 1 1) 2 1))), (a24, .inr (1, [.int 0, .int (-1), .int 0, .ref h2])), (a46, .inr (1, [.int 0, .int (-1), .int 0, .ref h2])), (h3, .inr (0, [.int 17, .ref h4, .int 2])), (h4, .inl (kc0, 10, .inr (.inr (.inr (.inr (va_up (va_up (va_up (va_up (fun _ => none) 0 (some (z.2.2.1 128))) 1 (some (z.2.2.1 129))) 2 none) 3 none)))))), (h1, .inr (0, [.int 5, .ref o1, .int 5])), (a68, .inr (1, [.int 0, .int (-1), .int 0, .ref h2])), (h2, .inr (0, [.int 0, .ref z.1, .int 0]))]) (tz := [(k2, .boolean), (kc0, .object "java/lang/Object")]) hP hD hK [] [0, 1, 2, 3, 4, 5, 6, 7, 8] [0, 1] rfl rfl (by decide) (by decide) rfl hk76 hF74 hB76.1 ht76 hvm76 rfl rfl
  have hG : s.heap.size + 4 ≤ H76.size := Nat.le_trans hG hz76
  refine W.eq (g2 := F0 m 152 ls [.ref (z.2.2.1 130), .ref h3]) (by rw [hr76]) ?_
  have hF78 := va_free (wc := [(h3, .inr (0, [.int 17, .ref h4, .int 2])), (h4, .inl (kc0, 10, .inr (.inr (.inr (.inr (va_up (va_up (va_up (va_up (fun _ => none) 0 (some (z.2.2.1 128))) 1 (some (z.2.2.1 129))) 2 none) 3 none))))))]) hD hS hA [4, 5] rfl
  refine va_calli (va_runV (As := [.ref (z.2.2.1 130)]) (rest := []) ⟨hx, hb, hml, hown, hts⟩ (k432_add l hl9 dC dI z h3 h4 H76.size kc0) (cwV 1 hts (gV q_284 q_128 q_129 q_12 q_126) rfl rfl rfl (by decide +kernel) ⟨Nat.le_of_ble_eq_true rfl, Nat.le_of_ble_eq_true rfl⟩) ⟨pc_blind, va_recv hK hP (ci := 0) (q0 := 4) rfl rfl, fun U hU hW => ⟨rfl, pc_mk hP hD hK hS hX hT [4, 5] [1] rfl rfl rfl rfl hF78 hU hW⟩⟩ rfl rfl hl.1 rfl (lv_room (Nat.le_of_ble_eq_true rfl)) dX9_putInOrder_152 ⟨(Nat.le_of_ble_eq_true rfl), (Nat.le_of_ble_eq_true rfl)⟩) hS (fun q9 _ h9 => hF78 q9 h9) hF78 (fun r81 u80 t80 H80 L80 ht80 hvm80 hw80 hB80 hz80 hk80 hS => ?_)
  obtain ⟨hP, hD, hK⟩ := pq_join (wr := [(h0, .inr (8, [.int 0, .ref h1, .ref h2, .ref o0, .ref h3, .int 0])), (a1, .inl (k2, 40, .inl (upd (upd (upd (fun _ => 0) 0 1) 1 1) 2 1))), (a24, .inr (1, [.int 0, .int (-1), .int 0, .ref h2])), (a46, .inr (1, [.int 0, .int (-1), .int 0, .ref h2])), (h1, .inr (0, [.int 5, .ref o1, .int 5])), (a68, .inr (1, [.int 0, .int (-1), .int 0, .ref h2])), (h2, .inr (0, [.int 0, .ref z.1, .int 0]))]) (tr := [(k2, .boolean)]) (wz := [(h0, .inr (8, [.int 0, .ref h1, .ref h2, .ref o0, .ref h3, .int 0])), (a1, .inl (k2, 40, .inl (upd (upd (upd (fun _ => 0) 0 1) 1 1) 2 1))), (a24, .inr (1, [.int 0, .int (-1), .int 0, .ref h2])), (a46, .inr (1, [.int 0, .int (-1), .int 0, .ref h2])), (h1, .inr (0, [.int 5, .ref o1, .int 5])), (a68, .inr (1, [.int 0, .int (-1), .int 0, .ref h2])), (h2, .inr (0, [.int 0, .ref z.1, .int 0])), (h3, .inr (0, [.int 18, .ref h4, .int 3])), (h4, .inl (kc0, 10, .inr (.inr (.inr (.inr (va_up (va_up (va_up (va_up (fun _ => none) 0 (some (z.2.2.1 128))) 1 (some (z.2.2.1 129))) 2 (some (z.2.2.1 130))) 3 none))))))]) (tz := [(k2, .boolean), (kc0, .object "java/lang/Object")]) hP hD hK [4, 5] [0, 1, 2, 3, 6, 7, 8] [0] rfl rfl (by decide) (by decide) rfl hk80 hF78 hB80.1 ht80 hvm80 rfl rfl
  have hG : s.heap.size + 4 ≤ H80.size := Nat.le_trans hG hz80
  refine W.eq (g2 := F0 m 155 ls [.int 1]) (by rw [hw80]) ?_
  refine lv_pop hx hb dX9_putInOrder_155 rfl ?_
  refine lv_iinc (v := 3) (lv' := [(2, .int 3), (4, .ref a68), (3, .int 1), (1, .ref a1), (0, .ref h0)]) hx hb dX9_putInOrder_156 hl (k := 2) rfl (by decide) (by decide) rfl (fun ls hl => ?_)
  refine lv_goto (tgt := 31) hx hb dX9_putInOrder_159 (by decide) ?_
  refine lv_iload_n hx hb dX9_putInOrder_31 rfl (lv_at hl 0 rfl) ?_
  refine lv_aload_n hx hb dX9_putInOrder_32 rfl (lv_at hl 4 rfl) ?_
  refine va_get (D := (dC, dI)) (ci := 8) (v := .ref h1) (C := RX9) (T := TX9) (N := 6) hx hb hts in_X9 hown hK hP 0 rfl rfl 1 (by decide) (hts _ q_64) (fun _ h9 => h9) rfl dX9_putInOrder_33 ?_
  have hF82 := va_free (wc := [(h1, .inr (0, [.int 5, .ref o1, .int 5]))]) hD hS hA [4] rfl
  refine va_calli (va_runV (As := []) (rest := [.int 3]) ⟨hx, hb, hml, hown, hts⟩ (k20_size l hl9 dC dI z h1 o1 H80.size 5 5) (cwV 0 hts (gV q_272 q_77 q_78 q_12 q_75) rfl rfl rfl (by decide +kernel) ⟨Nat.le_of_ble_eq_true rfl, Nat.le_of_ble_eq_true rfl⟩) ⟨pc_blind, va_recv hK hP (ci := 0) (q0 := 4) rfl rfl, fun U hU hW => ⟨rfl, pc_mk hP hD hK hS hX hT [4] [] rfl rfl rfl rfl hF82 hU hW⟩⟩ rfl rfl hl.1 rfl (lv_room (Nat.le_of_ble_eq_true rfl)) dX9_putInOrder_36 ⟨(Nat.le_of_ble_eq_true rfl), (Nat.le_of_ble_eq_true rfl)⟩) hS (fun q9 _ h9 => hF82 q9 h9) hF82 (fun r85 u84 t84 H84 L84 ht84 hvm84 hw84 hB84 hz84 hk84 hS => ?_)
  obtain ⟨hP, hD, hK⟩ := pq_join (wr := [(h0, .inr (8, [.int 0, .ref h1, .ref h2, .ref o0, .ref h3, .int 0])), (a1, .inl (k2, 40, .inl (upd (upd (upd (fun _ => 0) 0 1) 1 1) 2 1))), (a24, .inr (1, [.int 0, .int (-1), .int 0, .ref h2])), (a46, .inr (1, [.int 0, .int (-1), .int 0, .ref h2])), (a68, .inr (1, [.int 0, .int (-1), .int 0, .ref h2])), (h2, .inr (0, [.int 0, .ref z.1, .int 0])), (h3, .inr (0, [.int 18, .ref h4, .int 3])), (h4, .inl (kc0, 10, .inr (.inr (.inr (.inr (va_up (va_up (va_up (va_up (fun _ => none) 0 (some (z.2.2.1 128))) 1 (some (z.2.2.1 129))) 2 (some (z.2.2.1 130))) 3 none))))))]) (tr := [(k2, .boolean), (kc0, .object "java/lang/Object")]) (wz := [(h0, .inr (8, [.int 0, .ref h1, .ref h2, .ref o0, .ref h3, .int 0])), (a1, .inl (k2, 40, .inl (upd (upd (upd (fun _ => 0) 0 1) 1 1) 2 1))), (a24, .inr (1, [.int 0, .int (-1), .int 0, .ref h2])), (a46, .inr (1, [.int 0, .int (-1), .int 0, .ref h2])), (a68, .inr (1, [.int 0, .int (-1), .int 0, .ref h2])), (h2, .inr (0, [.int 0, .ref z.1, .int 0])), (h3, .inr (0, [.int 18, .ref h4, .int 3])), (h4, .inl (kc0, 10, .inr (.inr (.inr (.inr (va_up (va_up (va_up (va_up (fun _ => none) 0 (some (z.2.2.1 128))) 1 (some (z.2.2.1 129))) 2 (some (z.2.2.1 130))) 3 none)))))), (h1, .inr (0, [.int 5, .ref o1, .int 5]))]) (tz := [(k2, .boolean), (kc0, .object "java/lang/Object")]) hP hD hK [4] [0, 1, 2, 3, 5, 6, 7, 8] [0, 1] rfl rfl (by decide) (by decide) rfl hk84 hF82 hB84.1 ht84 hvm84 rfl rfl
  have hG : s.heap.size + 4 ≤ H84.size := Nat.le_trans hG hz84
  refine W.eq (g2 := F0 m 39 ls [.int 5, .int 3]) (by rw [hw84]) ?_
  refine lv_icmp_ge (tgt := 162) hx hb dX9_putInOrder_39 (by decide) (fun cz => absurd cz (by decide)) (fun _ => ?_)
  refine lv_aload_n hx hb dX9_putInOrder_42 rfl (lv_at hl 3 rfl) ?_
  refine lv_iload_n hx hb dX9_putInOrder_43 rfl (lv_at hl 0 rfl) ?_
  refine va_zald hx hb hK hP 1 0 rfl rfl (i := 3) (by unfold vp_in; decide) dX9_putInOrder_44 ?_
  refine W.eq (g2 := F0 m 45 ls [.int 0]) rfl ?_
  refine lv_if_ne (tgt := 52) hx hb dX9_putInOrder_45 (by decide) (fun cz => absurd (by decide) cz) (fun _ => ?_)
  refine lv_iconst (v := 1) hx hb dX9_putInOrder_48 (by decide) ?_
  refine lv_goto (tgt := 53) hx hb dX9_putInOrder_49 (by decide) ?_
  refine lv_istore_n (lv' := [(3, .int 1), (2, .int 3), (4, .ref a68), (1, .ref a1), (0, .ref h0)]) hx hb dX9_putInOrder_53 rfl hl (by decide) rfl (fun ls hl => ?_)
  refine lv_aload_n hx hb dX9_putInOrder_54 rfl (lv_at hl 4 rfl) ?_
  refine va_get (D := (dC, dI)) (ci := 8) (v := .ref h2) (C := RX9) (T := TX9) (N := 6) hx hb hts in_X9 hown hK hP 0 rfl rfl 2 (by decide) (hts _ q_65) (fun _ h9 => h9) rfl dX9_putInOrder_55 ?_
  have hF86 := va_free (wc := [(h2, .inr (0, [.int 0, .ref z.1, .int 0]))]) hD hS hA [5] rfl
  refine va_callr (va_runV (As := []) (rest := []) ⟨hx, hb, hml, hown, hts⟩ (k49_iterator l hl9 dC dI z h2 H84.size) (cwV 0 hts (gV q_256 q_257 q_258 q_12 q_255) rfl rfl rfl (by decide +kernel) ⟨Nat.le_of_ble_eq_true rfl, Nat.le_of_ble_eq_true rfl⟩) ⟨pc_blind, va_recv hK hP (ci := 0) (q0 := 5) rfl rfl, fun U hU hW => ⟨rfl, pc_mk hP hD hK hS hX hT [5] [] rfl rfl rfl rfl hF86 hU hW⟩⟩ rfl rfl hl.1 rfl (lv_room (Nat.le_of_ble_eq_true rfl)) dX9_putInOrder_58 ⟨(Nat.le_of_ble_eq_true rfl), (Nat.le_of_ble_eq_true rfl)⟩) hS (fun q9 _ h9 => hF86 q9 h9) hF86 (fun u88 r89 t88 H88 L88 ht88 hvm88 hw88 hB88 hz88 hk88 hS => ?_)
  obtain ⟨a90, hr88, hB88⟩ := hB88
  obtain ⟨hP, hD, hK⟩ := pq_join (wr := [(h0, .inr (8, [.int 0, .ref h1, .ref h2, .ref o0, .ref h3, .int 0])), (a1, .inl (k2, 40, .inl (upd (upd (upd (fun _ => 0) 0 1) 1 1) 2 1))), (a24, .inr (1, [.int 0, .int (-1), .int 0, .ref h2])), (a46, .inr (1, [.int 0, .int (-1), .int 0, .ref h2])), (a68, .inr (1, [.int 0, .int (-1), .int 0, .ref h2])), (h3, .inr (0, [.int 18, .ref h4, .int 3])), (h4, .inl (kc0, 10, .inr (.inr (.inr (.inr (va_up (va_up (va_up (va_up (fun _ => none) 0 (some (z.2.2.1 128))) 1 (some (z.2.2.1 129))) 2 (some (z.2.2.1 130))) 3 none)))))), (h1, .inr (0, [.int 5, .ref o1, .int 5]))]) (tr := [(k2, .boolean), (kc0, .object "java/lang/Object")]) (wz := [(h0, .inr (8, [.int 0, .ref h1, .ref h2, .ref o0, .ref h3, .int 0])), (a1, .inl (k2, 40, .inl (upd (upd (upd (fun _ => 0) 0 1) 1 1) 2 1))), (a24, .inr (1, [.int 0, .int (-1), .int 0, .ref h2])), (a46, .inr (1, [.int 0, .int (-1), .int 0, .ref h2])), (a68, .inr (1, [.int 0, .int (-1), .int 0, .ref h2])), (h3, .inr (0, [.int 18, .ref h4, .int 3])), (h4, .inl (kc0, 10, .inr (.inr (.inr (.inr (va_up (va_up (va_up (va_up (fun _ => none) 0 (some (z.2.2.1 128))) 1 (some (z.2.2.1 129))) 2 (some (z.2.2.1 130))) 3 none)))))), (h1, .inr (0, [.int 5, .ref o1, .int 5])), (h2, .inr (0, [.int 0, .ref z.1, .int 0])), (a90, .inr (1, [.int 0, .int (-1), .int 0, .ref h2]))]) (tz := [(k2, .boolean), (kc0, .object "java/lang/Object")]) hP hD hK [5] [0, 1, 2, 3, 4, 6, 7, 8] [0, 1] rfl rfl (by decide) (by decide) rfl hk88 hF86 hB88.1 ht88 hvm88 rfl rfl
  have hG : s.heap.size + 5 ≤ H88.size := va_gr (g := 4) (g1 := 1) hG (by rw [← ht88]; exact hB88.2)
  refine W.eq (g2 := F0 m 61 ls [.ref a90]) (by rw [hr88]) ?_
  refine W.widen (k := 5) (n := 56) (by decide) (by decide) ?_
  refine lv_astore (lv' := [(4, .ref a90), (3, .int 1), (2, .int 3), (1, .ref a1), (0, .ref h0)]) hx hb dX9_putInOrder_61 hl (by decide) rfl (fun ls hl => ?_)
  refine lv_aload hx hb dX9_putInOrder_63 (lv_at hl 0 rfl) ?_
  have hF91 := va_free (wc := [(a90, .inr (1, [.int 0, .int (-1), .int 0, .ref h2])), (h2, .inr (0, [.int 0, .ref z.1, .int 0]))]) hD hS hA [9, 8] rfl
  refine va_callFi (va_runF (As := []) (rest := []) (hK.1 1 _ rfl).2 ⟨hx, hb, hml, hown, hts⟩ (k50_hasNext l hl9 dC dI z a90 h2 H88.size) (va_cwF 0 hts (gF q_261 q_262 q_263 q_246 q_260) rfl rfl rfl hT.2.2.2.2.2.2.1 (by decide +kernel) ⟨Nat.le_of_ble_eq_true rfl, Nat.le_of_ble_eq_true rfl⟩) ⟨pc_blind, va_recv hK hP (ci := 1) (q0 := 9) rfl rfl, fun U hU hW => ⟨rfl, pc_mk hP hD hK hS hX hT [9, 8] [] rfl rfl rfl rfl hF91 hU hW⟩⟩ rfl rfl hl.1 rfl (lv_room (Nat.le_of_ble_eq_true rfl)) dX9_putInOrder_65 ⟨(Nat.le_of_ble_eq_true rfl), (Nat.le_of_ble_eq_true rfl)⟩) hS (fun q9 _ h9 => hF91 q9 h9) hF91 (fun r94 u93 t93 H93 L93 ht93 hvm93 hw93 hB93 hz93 hk93 hS => ?_)
  obtain ⟨hP, hD, hK⟩ := pq_join (wr := [(h0, .inr (8, [.int 0, .ref h1, .ref h2, .ref o0, .ref h3, .int 0])), (a1, .inl (k2, 40, .inl (upd (upd (upd (fun _ => 0) 0 1) 1 1) 2 1))), (a24, .inr (1, [.int 0, .int (-1), .int 0, .ref h2])), (a46, .inr (1, [.int 0, .int (-1), .int 0, .ref h2])), (a68, .inr (1, [.int 0, .int (-1), .int 0, .ref h2])), (h3, .inr (0, [.int 18, .ref h4, .int 3])), (h4, .inl (kc0, 10, .inr (.inr (.inr (.inr (va_up (va_up (va_up (va_up (fun _ => none) 0 (some (z.2.2.1 128))) 1 (some (z.2.2.1 129))) 2 (some (z.2.2.1 130))) 3 none)))))), (h1, .inr (0, [.int 5, .ref o1, .int 5]))]) (tr := [(k2, .boolean), (kc0, .object "java/lang/Object")]) (wz := [(h0, .inr (8, [.int 0, .ref h1, .ref h2, .ref o0, .ref h3, .int 0])), (a1, .inl (k2, 40, .inl (upd (upd (upd (fun _ => 0) 0 1) 1 1) 2 1))), (a24, .inr (1, [.int 0, .int (-1), .int 0, .ref h2])), (a46, .inr (1, [.int 0, .int (-1), .int 0, .ref h2])), (a68, .inr (1, [.int 0, .int (-1), .int 0, .ref h2])), (h3, .inr (0, [.int 18, .ref h4, .int 3])), (h4, .inl (kc0, 10, .inr (.inr (.inr (.inr (va_up (va_up (va_up (va_up (fun _ => none) 0 (some (z.2.2.1 128))) 1 (some (z.2.2.1 129))) 2 (some (z.2.2.1 130))) 3 none)))))), (h1, .inr (0, [.int 5, .ref o1, .int 5])), (a90, .inr (1, [.int 0, .int (-1), .int 0, .ref h2])), (h2, .inr (0, [.int 0, .ref z.1, .int 0]))]) (tz := [(k2, .boolean), (kc0, .object "java/lang/Object")]) hP hD hK [9, 8] [0, 1, 2, 3, 4, 5, 6, 7] [0, 1] rfl rfl (by decide) (by decide) rfl hk93 hF91 hB93.1 ht93 hvm93 rfl rfl
  have hG : s.heap.size + 5 ≤ H93.size := Nat.le_trans hG hz93
  refine W.eq (g2 := F0 m 70 ls [.int 0]) (by rw [hw93]) ?_
  refine lv_if_eq (tgt := 136) hx hb dX9_putInOrder_70 (by decide) (fun _ => ?_) (fun cz => absurd (by decide) cz)
  refine lv_iload_n hx hb dX9_putInOrder_136 rfl (lv_at hl 1 rfl) ?_
  refine lv_if_eq (tgt := 156) hx hb dX9_putInOrder_137 (by decide) (fun cz => absurd cz (by decide)) (fun _ => ?_)
  refine lv_aload_n hx hb dX9_putInOrder_140 rfl (lv_at hl 3 rfl) ?_
  refine lv_iload_n hx hb dX9_putInOrder_141 rfl (lv_at hl 2 rfl) ?_
  refine lv_iconst (v := 1) hx hb dX9_putInOrder_142 (by decide) ?_
  refine va_zast hx hb hK hP hD (va_Sre hS) 1 0 rfl rfl (i := 3) (by unfold vp_in; decide) dX9_putInOrder_143 (fun H95 _ hP hD hS' => ?_)
  have hG : s.heap.size + 5 ≤ H95.size := Nat.le_trans hG hS'.1
  have hS := va_Str hS hS'
  have hP : va_P (dC, dI) xCl [(h0, .inr (8, [.int 0, .ref h1, .ref h2, .ref o0, .ref h3, .int 0])), (a1, .inl (k2, 40, .inl (upd (upd (upd (upd (fun _ => 0) 0 1) 1 1) 2 1) 3 1))), (a24, .inr (1, [.int 0, .int (-1), .int 0, .ref h2])), (a46, .inr (1, [.int 0, .int (-1), .int 0, .ref h2])), (a68, .inr (1, [.int 0, .int (-1), .int 0, .ref h2])), (h3, .inr (0, [.int 18, .ref h4, .int 3])), (h4, .inl (kc0, 10, .inr (.inr (.inr (.inr (va_up (va_up (va_up (va_up (fun _ => none) 0 (some (z.2.2.1 128))) 1 (some (z.2.2.1 129))) 2 (some (z.2.2.1 130))) 3 none)))))), (h1, .inr (0, [.int 5, .ref o1, .int 5])), (a90, .inr (1, [.int 0, .int (-1), .int 0, .ref h2])), (h2, .inr (0, [.int 0, .ref z.1, .int 0]))] H95 := hP
  have hD : va_D A [(h0, .inr (8, [.int 0, .ref h1, .ref h2, .ref o0, .ref h3, .int 0])), (a1, .inl (k2, 40, .inl (upd (upd (upd (upd (fun _ => 0) 0 1) 1 1) 2 1) 3 1))), (a24, .inr (1, [.int 0, .int (-1), .int 0, .ref h2])), (a46, .inr (1, [.int 0, .int (-1), .int 0, .ref h2])), (a68, .inr (1, [.int 0, .int (-1), .int 0, .ref h2])), (h3, .inr (0, [.int 18, .ref h4, .int 3])), (h4, .inl (kc0, 10, .inr (.inr (.inr (.inr (va_up (va_up (va_up (va_up (fun _ => none) 0 (some (z.2.2.1 128))) 1 (some (z.2.2.1 129))) 2 (some (z.2.2.1 130))) 3 none)))))), (h1, .inr (0, [.int 5, .ref o1, .int 5])), (a90, .inr (1, [.int 0, .int (-1), .int 0, .ref h2])), (h2, .inr (0, [.int 0, .ref z.1, .int 0]))] := hD
  refine lv_aload_n hx hb dX9_putInOrder_144 rfl (lv_at hl 4 rfl) ?_
  refine va_get (D := (dC, dI)) (ci := 8) (v := .ref h3) (C := RX9) (T := TX9) (N := 6) hx hb hts in_X9 hown hK hP 0 rfl rfl 4 (by decide) (hts _ q_67) (fun _ h9 => h9) rfl dX9_putInOrder_145 ?_
  refine lv_iload_n hx hb dX9_putInOrder_148 rfl (lv_at hl 2 rfl) ?_
  have hF96 := va_free (wc := []) hD hS hA [] rfl
  refine va_callr (va_runS (As := [.int 3]) (rest := [.ref h3]) ⟨hx, hb, hml, hown, hts⟩ (k317_valueOf l hl9 dC dI z H95.size) (va_cwS 1 hts (gS q_295 q_296 q_297 q_294) rfl rfl rfl (by decide +kernel) ⟨Nat.le_of_ble_eq_true rfl, Nat.le_of_ble_eq_true rfl⟩) ⟨pc_blind, fun U hU hW => ⟨rfl, pc_mk hP hD hK hS hX hT [] [] rfl rfl rfl rfl hF96 hU hW⟩⟩ rfl rfl hl.1 rfl (lv_room (Nat.le_of_ble_eq_true rfl)) dX9_putInOrder_149 ⟨(Nat.le_of_ble_eq_true rfl), (Nat.le_of_ble_eq_true rfl)⟩) hS (fun q9 _ h9 => hF96 q9 h9) hF96 (fun u98 r99 t98 H98 L98 ht98 hvm98 hw98 hB98 hz98 hk98 hS => ?_)
  obtain ⟨hr98, hB98⟩ := hB98
  obtain ⟨hP, hD, hK⟩ := pq_join (wr := [(h0, .inr (8, [.int 0, .ref h1, .ref h2, .ref o0, .ref h3, .int 0])), (a1, .inl (k2, 40, .inl (upd (upd (upd (upd (fun _ => 0) 0 1) 1 1) 2 1) 3 1))), (a24, .inr (1, [.int 0, .int (-1), .int 0, .ref h2])), (a46, .inr (1, [.int 0, .int (-1), .int 0, .ref h2])), (a68, .inr (1, [.int 0, .int (-1), .int 0, .ref h2])), (h3, .inr (0, [.int 18, .ref h4, .int 3])), (h4, .inl (kc0, 10, .inr (.inr (.inr (.inr (va_up (va_up (va_up (va_up (fun _ => none) 0 (some (z.2.2.1 128))) 1 (some (z.2.2.1 129))) 2 (some (z.2.2.1 130))) 3 none)))))), (h1, .inr (0, [.int 5, .ref o1, .int 5])), (a90, .inr (1, [.int 0, .int (-1), .int 0, .ref h2])), (h2, .inr (0, [.int 0, .ref z.1, .int 0]))]) (tr := [(k2, .boolean), (kc0, .object "java/lang/Object")]) (wz := [(h0, .inr (8, [.int 0, .ref h1, .ref h2, .ref o0, .ref h3, .int 0])), (a1, .inl (k2, 40, .inl (upd (upd (upd (upd (fun _ => 0) 0 1) 1 1) 2 1) 3 1))), (a24, .inr (1, [.int 0, .int (-1), .int 0, .ref h2])), (a46, .inr (1, [.int 0, .int (-1), .int 0, .ref h2])), (a68, .inr (1, [.int 0, .int (-1), .int 0, .ref h2])), (h3, .inr (0, [.int 18, .ref h4, .int 3])), (h4, .inl (kc0, 10, .inr (.inr (.inr (.inr (va_up (va_up (va_up (va_up (fun _ => none) 0 (some (z.2.2.1 128))) 1 (some (z.2.2.1 129))) 2 (some (z.2.2.1 130))) 3 none)))))), (h1, .inr (0, [.int 5, .ref o1, .int 5])), (a90, .inr (1, [.int 0, .int (-1), .int 0, .ref h2])), (h2, .inr (0, [.int 0, .ref z.1, .int 0]))]) (tz := [(k2, .boolean), (kc0, .object "java/lang/Object")]) hP hD hK [] [0, 1, 2, 3, 4, 5, 6, 7, 8, 9] [0, 1] rfl rfl (by decide) (by decide) rfl hk98 hF96 hB98.1 ht98 hvm98 rfl rfl
  have hG : s.heap.size + 5 ≤ H98.size := Nat.le_trans hG hz98
  refine W.eq (g2 := F0 m 152 ls [.ref (z.2.2.1 131), .ref h3]) (by rw [hr98]) ?_
  have hF100 := va_free (wc := [(h3, .inr (0, [.int 18, .ref h4, .int 3])), (h4, .inl (kc0, 10, .inr (.inr (.inr (.inr (va_up (va_up (va_up (va_up (fun _ => none) 0 (some (z.2.2.1 128))) 1 (some (z.2.2.1 129))) 2 (some (z.2.2.1 130))) 3 none))))))]) hD hS hA [5, 6] rfl
  refine va_calli (va_runV (As := [.ref (z.2.2.1 131)]) (rest := []) ⟨hx, hb, hml, hown, hts⟩ (k434_add l hl9 dC dI z h3 h4 H98.size kc0) (cwV 1 hts (gV q_284 q_128 q_129 q_12 q_126) rfl rfl rfl (by decide +kernel) ⟨Nat.le_of_ble_eq_true rfl, Nat.le_of_ble_eq_true rfl⟩) ⟨pc_blind, va_recv hK hP (ci := 0) (q0 := 5) rfl rfl, fun U hU hW => ⟨rfl, pc_mk hP hD hK hS hX hT [5, 6] [1] rfl rfl rfl rfl hF100 hU hW⟩⟩ rfl rfl hl.1 rfl (lv_room (Nat.le_of_ble_eq_true rfl)) dX9_putInOrder_152 ⟨(Nat.le_of_ble_eq_true rfl), (Nat.le_of_ble_eq_true rfl)⟩) hS (fun q9 _ h9 => hF100 q9 h9) hF100 (fun r103 u102 t102 H102 L102 ht102 hvm102 hw102 hB102 hz102 hk102 hS => ?_)
  obtain ⟨hP, hD, hK⟩ := pq_join (wr := [(h0, .inr (8, [.int 0, .ref h1, .ref h2, .ref o0, .ref h3, .int 0])), (a1, .inl (k2, 40, .inl (upd (upd (upd (upd (fun _ => 0) 0 1) 1 1) 2 1) 3 1))), (a24, .inr (1, [.int 0, .int (-1), .int 0, .ref h2])), (a46, .inr (1, [.int 0, .int (-1), .int 0, .ref h2])), (a68, .inr (1, [.int 0, .int (-1), .int 0, .ref h2])), (h1, .inr (0, [.int 5, .ref o1, .int 5])), (a90, .inr (1, [.int 0, .int (-1), .int 0, .ref h2])), (h2, .inr (0, [.int 0, .ref z.1, .int 0]))]) (tr := [(k2, .boolean)]) (wz := [(h0, .inr (8, [.int 0, .ref h1, .ref h2, .ref o0, .ref h3, .int 0])), (a1, .inl (k2, 40, .inl (upd (upd (upd (upd (fun _ => 0) 0 1) 1 1) 2 1) 3 1))), (a24, .inr (1, [.int 0, .int (-1), .int 0, .ref h2])), (a46, .inr (1, [.int 0, .int (-1), .int 0, .ref h2])), (a68, .inr (1, [.int 0, .int (-1), .int 0, .ref h2])), (h1, .inr (0, [.int 5, .ref o1, .int 5])), (a90, .inr (1, [.int 0, .int (-1), .int 0, .ref h2])), (h2, .inr (0, [.int 0, .ref z.1, .int 0])), (h3, .inr (0, [.int 19, .ref h4, .int 4])), (h4, .inl (kc0, 10, .inr (.inr (.inr (.inr (va_up (va_up (va_up (va_up (fun _ => none) 0 (some (z.2.2.1 128))) 1 (some (z.2.2.1 129))) 2 (some (z.2.2.1 130))) 3 (some (z.2.2.1 131))))))))]) (tz := [(k2, .boolean), (kc0, .object "java/lang/Object")]) hP hD hK [5, 6] [0, 1, 2, 3, 4, 7, 8, 9] [0] rfl rfl (by decide) (by decide) rfl hk102 hF100 hB102.1 ht102 hvm102 rfl rfl
  have hG : s.heap.size + 5 ≤ H102.size := Nat.le_trans hG hz102
  refine W.eq (g2 := F0 m 155 ls [.int 1]) (by rw [hw102]) ?_
  refine lv_pop hx hb dX9_putInOrder_155 rfl ?_
  refine lv_iinc (v := 4) (lv' := [(2, .int 4), (4, .ref a90), (3, .int 1), (1, .ref a1), (0, .ref h0)]) hx hb dX9_putInOrder_156 hl (k := 2) rfl (by decide) (by decide) rfl (fun ls hl => ?_)
  refine lv_goto (tgt := 31) hx hb dX9_putInOrder_159 (by decide) ?_
  refine lv_iload_n hx hb dX9_putInOrder_31 rfl (lv_at hl 0 rfl) ?_
  refine lv_aload_n hx hb dX9_putInOrder_32 rfl (lv_at hl 4 rfl) ?_
  refine va_get (D := (dC, dI)) (ci := 8) (v := .ref h1) (C := RX9) (T := TX9) (N := 6) hx hb hts in_X9 hown hK hP 0 rfl rfl 1 (by decide) (hts _ q_64) (fun _ h9 => h9) rfl dX9_putInOrder_33 ?_
  have hF104 := va_free (wc := [(h1, .inr (0, [.int 5, .ref o1, .int 5]))]) hD hS hA [5] rfl
  refine va_calli (va_runV (As := []) (rest := [.int 4]) ⟨hx, hb, hml, hown, hts⟩ (k20_size l hl9 dC dI z h1 o1 H102.size 5 5) (cwV 0 hts (gV q_272 q_77 q_78 q_12 q_75) rfl rfl rfl (by decide +kernel) ⟨Nat.le_of_ble_eq_true rfl, Nat.le_of_ble_eq_true rfl⟩) ⟨pc_blind, va_recv hK hP (ci := 0) (q0 := 5) rfl rfl, fun U hU hW => ⟨rfl, pc_mk hP hD hK hS hX hT [5] [] rfl rfl rfl rfl hF104 hU hW⟩⟩ rfl rfl hl.1 rfl (lv_room (Nat.le_of_ble_eq_true rfl)) dX9_putInOrder_36 ⟨(Nat.le_of_ble_eq_true rfl), (Nat.le_of_ble_eq_true rfl)⟩) hS (fun q9 _ h9 => hF104 q9 h9) hF104 (fun r107 u106 t106 H106 L106 ht106 hvm106 hw106 hB106 hz106 hk106 hS => ?_)
  obtain ⟨hP, hD, hK⟩ := pq_join (wr := [(h0, .inr (8, [.int 0, .ref h1, .ref h2, .ref o0, .ref h3, .int 0])), (a1, .inl (k2, 40, .inl (upd (upd (upd (upd (fun _ => 0) 0 1) 1 1) 2 1) 3 1))), (a24, .inr (1, [.int 0, .int (-1), .int 0, .ref h2])), (a46, .inr (1, [.int 0, .int (-1), .int 0, .ref h2])), (a68, .inr (1, [.int 0, .int (-1), .int 0, .ref h2])), (a90, .inr (1, [.int 0, .int (-1), .int 0, .ref h2])), (h2, .inr (0, [.int 0, .ref z.1, .int 0])), (h3, .inr (0, [.int 19, .ref h4, .int 4])), (h4, .inl (kc0, 10, .inr (.inr (.inr (.inr (va_up (va_up (va_up (va_up (fun _ => none) 0 (some (z.2.2.1 128))) 1 (some (z.2.2.1 129))) 2 (some (z.2.2.1 130))) 3 (some (z.2.2.1 131))))))))]) (tr := [(k2, .boolean), (kc0, .object "java/lang/Object")]) (wz := [(h0, .inr (8, [.int 0, .ref h1, .ref h2, .ref o0, .ref h3, .int 0])), (a1, .inl (k2, 40, .inl (upd (upd (upd (upd (fun _ => 0) 0 1) 1 1) 2 1) 3 1))), (a24, .inr (1, [.int 0, .int (-1), .int 0, .ref h2])), (a46, .inr (1, [.int 0, .int (-1), .int 0, .ref h2])), (a68, .inr (1, [.int 0, .int (-1), .int 0, .ref h2])), (a90, .inr (1, [.int 0, .int (-1), .int 0, .ref h2])), (h2, .inr (0, [.int 0, .ref z.1, .int 0])), (h3, .inr (0, [.int 19, .ref h4, .int 4])), (h4, .inl (kc0, 10, .inr (.inr (.inr (.inr (va_up (va_up (va_up (va_up (fun _ => none) 0 (some (z.2.2.1 128))) 1 (some (z.2.2.1 129))) 2 (some (z.2.2.1 130))) 3 (some (z.2.2.1 131)))))))), (h1, .inr (0, [.int 5, .ref o1, .int 5]))]) (tz := [(k2, .boolean), (kc0, .object "java/lang/Object")]) hP hD hK [5] [0, 1, 2, 3, 4, 6, 7, 8, 9] [0, 1] rfl rfl (by decide) (by decide) rfl hk106 hF104 hB106.1 ht106 hvm106 rfl rfl
  have hG : s.heap.size + 5 ≤ H106.size := Nat.le_trans hG hz106
  refine W.eq (g2 := F0 m 39 ls [.int 5, .int 4]) (by rw [hw106]) ?_
  refine lv_icmp_ge (tgt := 162) hx hb dX9_putInOrder_39 (by decide) (fun cz => absurd cz (by decide)) (fun _ => ?_)
  refine lv_aload_n hx hb dX9_putInOrder_42 rfl (lv_at hl 3 rfl) ?_
  refine lv_iload_n hx hb dX9_putInOrder_43 rfl (lv_at hl 0 rfl) ?_
  refine va_zald hx hb hK hP 1 0 rfl rfl (i := 4) (by unfold vp_in; decide) dX9_putInOrder_44 ?_
  refine W.eq (g2 := F0 m 45 ls [.int 0]) rfl ?_
  refine lv_if_ne (tgt := 52) hx hb dX9_putInOrder_45 (by decide) (fun cz => absurd (by decide) cz) (fun _ => ?_)
  refine lv_iconst (v := 1) hx hb dX9_putInOrder_48 (by decide) ?_
  refine lv_goto (tgt := 53) hx hb dX9_putInOrder_49 (by decide) ?_
  refine lv_istore_n (lv' := [(3, .int 1), (2, .int 4), (4, .ref a90), (1, .ref a1), (0, .ref h0)]) hx hb dX9_putInOrder_53 rfl hl (by decide) rfl (fun ls hl => ?_)
  refine lv_aload_n hx hb dX9_putInOrder_54 rfl (lv_at hl 4 rfl) ?_
  refine va_get (D := (dC, dI)) (ci := 8) (v := .ref h2) (C := RX9) (T := TX9) (N := 6) hx hb hts in_X9 hown hK hP 0 rfl rfl 2 (by decide) (hts _ q_65) (fun _ h9 => h9) rfl dX9_putInOrder_55 ?_
  have hF108 := va_free (wc := [(h2, .inr (0, [.int 0, .ref z.1, .int 0]))]) hD hS hA [6] rfl
  refine va_callr (va_runV (As := []) (rest := []) ⟨hx, hb, hml, hown, hts⟩ (k49_iterator l hl9 dC dI z h2 H106.size) (cwV 0 hts (gV q_256 q_257 q_258 q_12 q_255) rfl rfl rfl (by decide +kernel) ⟨Nat.le_of_ble_eq_true rfl, Nat.le_of_ble_eq_true rfl⟩) ⟨pc_blind, va_recv hK hP (ci := 0) (q0 := 6) rfl rfl, fun U hU hW => ⟨rfl, pc_mk hP hD hK hS hX hT [6] [] rfl rfl rfl rfl hF108 hU hW⟩⟩ rfl rfl hl.1 rfl (lv_room (Nat.le_of_ble_eq_true rfl)) dX9_putInOrder_58 ⟨(Nat.le_of_ble_eq_true rfl), (Nat.le_of_ble_eq_true rfl)⟩) hS (fun q9 _ h9 => hF108 q9 h9) hF108 (fun u110 r111 t110 H110 L110 ht110 hvm110 hw110 hB110 hz110 hk110 hS => ?_)
  obtain ⟨a112, hr110, hB110⟩ := hB110
  obtain ⟨hP, hD, hK⟩ := pq_join (wr := [(h0, .inr (8, [.int 0, .ref h1, .ref h2, .ref o0, .ref h3, .int 0])), (a1, .inl (k2, 40, .inl (upd (upd (upd (upd (fun _ => 0) 0 1) 1 1) 2 1) 3 1))), (a24, .inr (1, [.int 0, .int (-1), .int 0, .ref h2])), (a46, .inr (1, [.int 0, .int (-1), .int 0, .ref h2])), (a68, .inr (1, [.int 0, .int (-1), .int 0, .ref h2])), (a90, .inr (1, [.int 0, .int (-1), .int 0, .ref h2])), (h3, .inr (0, [.int 19, .ref h4, .int 4])), (h4, .inl (kc0, 10, .inr (.inr (.inr (.inr (va_up (va_up (va_up (va_up (fun _ => none) 0 (some (z.2.2.1 128))) 1 (some (z.2.2.1 129))) 2 (some (z.2.2.1 130))) 3 (some (z.2.2.1 131)))))))), (h1, .inr (0, [.int 5, .ref o1, .int 5]))]) (tr := [(k2, .boolean), (kc0, .object "java/lang/Object")]) (wz := [(h0, .inr (8, [.int 0, .ref h1, .ref h2, .ref o0, .ref h3, .int 0])), (a1, .inl (k2, 40, .inl (upd (upd (upd (upd (fun _ => 0) 0 1) 1 1) 2 1) 3 1))), (a24, .inr (1, [.int 0, .int (-1), .int 0, .ref h2])), (a46, .inr (1, [.int 0, .int (-1), .int 0, .ref h2])), (a68, .inr (1, [.int 0, .int (-1), .int 0, .ref h2])), (a90, .inr (1, [.int 0, .int (-1), .int 0, .ref h2])), (h3, .inr (0, [.int 19, .ref h4, .int 4])), (h4, .inl (kc0, 10, .inr (.inr (.inr (.inr (va_up (va_up (va_up (va_up (fun _ => none) 0 (some (z.2.2.1 128))) 1 (some (z.2.2.1 129))) 2 (some (z.2.2.1 130))) 3 (some (z.2.2.1 131)))))))), (h1, .inr (0, [.int 5, .ref o1, .int 5])), (h2, .inr (0, [.int 0, .ref z.1, .int 0])), (a112, .inr (1, [.int 0, .int (-1), .int 0, .ref h2]))]) (tz := [(k2, .boolean), (kc0, .object "java/lang/Object")]) hP hD hK [6] [0, 1, 2, 3, 4, 5, 7, 8, 9] [0, 1] rfl rfl (by decide) (by decide) rfl hk110 hF108 hB110.1 ht110 hvm110 rfl rfl
  have hG : s.heap.size + 6 ≤ H110.size := va_gr (g := 5) (g1 := 1) hG (by rw [← ht110]; exact hB110.2)
  refine W.eq (g2 := F0 m 61 ls [.ref a112]) (by rw [hr110]) ?_
  refine W.widen (k := 6) (n := 60) (by decide) (by decide) ?_
  refine lv_astore (lv' := [(4, .ref a112), (3, .int 1), (2, .int 4), (1, .ref a1), (0, .ref h0)]) hx hb dX9_putInOrder_61 hl (by decide) rfl (fun ls hl => ?_)
  refine lv_aload hx hb dX9_putInOrder_63 (lv_at hl 0 rfl) ?_
  have hF113 := va_free (wc := [(a112, .inr (1, [.int 0, .int (-1), .int 0, .ref h2])), (h2, .inr (0, [.int 0, .ref z.1, .int 0]))]) hD hS hA [10, 9] rfl
  refine va_callFi (va_runF (As := []) (rest := []) (hK.1 1 _ rfl).2 ⟨hx, hb, hml, hown, hts⟩ (k50_hasNext l hl9 dC dI z a112 h2 H110.size) (va_cwF 0 hts (gF q_261 q_262 q_263 q_246 q_260) rfl rfl rfl hT.2.2.2.2.2.2.1 (by decide +kernel) ⟨Nat.le_of_ble_eq_true rfl, Nat.le_of_ble_eq_true rfl⟩) ⟨pc_blind, va_recv hK hP (ci := 1) (q0 := 10) rfl rfl, fun U hU hW => ⟨rfl, pc_mk hP hD hK hS hX hT [10, 9] [] rfl rfl rfl rfl hF113 hU hW⟩⟩ rfl rfl hl.1 rfl (lv_room (Nat.le_of_ble_eq_true rfl)) dX9_putInOrder_65 ⟨(Nat.le_of_ble_eq_true rfl), (Nat.le_of_ble_eq_true rfl)⟩) hS (fun q9 _ h9 => hF113 q9 h9) hF113 (fun r116 u115 t115 H115 L115 ht115 hvm115 hw115 hB115 hz115 hk115 hS => ?_)
  obtain ⟨hP, hD, hK⟩ := pq_join (wr := [(h0, .inr (8, [.int 0, .ref h1, .ref h2, .ref o0, .ref h3, .int 0])), (a1, .inl (k2, 40, .inl (upd (upd (upd (upd (fun _ => 0) 0 1) 1 1) 2 1) 3 1))), (a24, .inr (1, [.int 0, .int (-1), .int 0, .ref h2])), (a46, .inr (1, [.int 0, .int (-1), .int 0, .ref h2])), (a68, .inr (1, [.int 0, .int (-1), .int 0, .ref h2])), (a90, .inr (1, [.int 0, .int (-1), .int 0, .ref h2])), (h3, .inr (0, [.int 19, .ref h4, .int 4])), (h4, .inl (kc0, 10, .inr (.inr (.inr (.inr (va_up (va_up (va_up (va_up (fun _ => none) 0 (some (z.2.2.1 128))) 1 (some (z.2.2.1 129))) 2 (some (z.2.2.1 130))) 3 (some (z.2.2.1 131)))))))), (h1, .inr (0, [.int 5, .ref o1, .int 5]))]) (tr := [(k2, .boolean), (kc0, .object "java/lang/Object")]) (wz := [(h0, .inr (8, [.int 0, .ref h1, .ref h2, .ref o0, .ref h3, .int 0])), (a1, .inl (k2, 40, .inl (upd (upd (upd (upd (fun _ => 0) 0 1) 1 1) 2 1) 3 1))), (a24, .inr (1, [.int 0, .int (-1), .int 0, .ref h2])), (a46, .inr (1, [.int 0, .int (-1), .int 0, .ref h2])), (a68, .inr (1, [.int 0, .int (-1), .int 0, .ref h2])), (a90, .inr (1, [.int 0, .int (-1), .int 0, .ref h2])), (h3, .inr (0, [.int 19, .ref h4, .int 4])), (h4, .inl (kc0, 10, .inr (.inr (.inr (.inr (va_up (va_up (va_up (va_up (fun _ => none) 0 (some (z.2.2.1 128))) 1 (some (z.2.2.1 129))) 2 (some (z.2.2.1 130))) 3 (some (z.2.2.1 131)))))))), (h1, .inr (0, [.int 5, .ref o1, .int 5])), (a112, .inr (1, [.int 0, .int (-1), .int 0, .ref h2])), (h2, .inr (0, [.int 0, .ref z.1, .int 0]))]) (tz := [(k2, .boolean), (kc0, .object "java/lang/Object")]) hP hD hK [10, 9] [0, 1, 2, 3, 4, 5, 6, 7, 8] [0, 1] rfl rfl (by decide) (by decide) rfl hk115 hF113 hB115.1 ht115 hvm115 rfl rfl
  have hG : s.heap.size + 6 ≤ H115.size := Nat.le_trans hG hz115
  refine W.eq (g2 := F0 m 70 ls [.int 0]) (by rw [hw115]) ?_
  refine lv_if_eq (tgt := 136) hx hb dX9_putInOrder_70 (by decide) (fun _ => ?_) (fun cz => absurd (by decide) cz)
  refine lv_iload_n hx hb dX9_putInOrder_136 rfl (lv_at hl 1 rfl) ?_
  refine lv_if_eq (tgt := 156) hx hb dX9_putInOrder_137 (by decide) (fun cz => absurd cz (by decide)) (fun _ => ?_)
  refine lv_aload_n hx hb dX9_putInOrder_140 rfl (lv_at hl 3 rfl) ?_
  refine lv_iload_n hx hb dX9_putInOrder_141 rfl (lv_at hl 2 rfl) ?_
  refine lv_iconst (v := 1) hx hb dX9_putInOrder_142 (by decide) ?_
  refine va_zast hx hb hK hP hD (va_Sre hS) 1 0 rfl rfl (i := 4) (by unfold vp_in; decide) dX9_putInOrder_143 (fun H117 _ hP hD hS' => ?_)
  have hG : s.heap.size + 6 ≤ H117.size := Nat.le_trans hG hS'.1
  have hS := va_Str hS hS'
  have hP : va_P (dC, dI) xCl [(h0, .inr (8, [.int 0, .ref h1, .ref h2, .ref o0, .ref h3, .int 0])), (a1, .inl (k2, 40, .inl (upd (upd (upd (upd (upd (fun _ => 0) 0 1) 1 1) 2 1) 3 1) 4 1))), (a24, .inr (1, [.int 0, .int (-1), .int 0, .ref h2])), (a46, .inr (1, [.int 0, .int (-1), .int 0, .ref h2])), (a68, .inr (1, [.int 0, .int (-1), .int 0, .ref h2])), (a90, .inr (1, [.int 0, .int (-1), .int 0, .ref h2])), (h3, .inr (0, [.int 19, .ref h4, .int 4])), (h4, .inl (kc0, 10, .inr (.inr (.inr (.inr (va_up (va_up (va_up (va_up (fun _ => none) 0 (some (z.2.2.1 128))) 1 (some (z.2.2.1 129))) 2 (some (z.2.2.1 130))) 3 (some (z.2.2.1 131)))))))), (h1, .inr (0, [.int 5, .ref o1, .int 5])), (a112, .inr (1, [.int 0, .int (-1), .int 0, .ref h2])), (h2, .inr (0, [.int 0, .ref z.1, .int 0]))] H117 := hP
  have hD : va_D A [(h0, .inr (8, [.int 0, .ref h1, .ref h2, .ref o0, .ref h3, .int 0])), (a1, .inl (k2, 40, .inl (upd (upd (upd (upd (upd (fun _ => 0) 0 1) 1 1) 2 1) 3 1) 4 1))), (a24, .inr (1, [.int 0, .int (-1), .int 0, .ref h2])), (a46, .inr (1, [.int 0, .int (-1), .int 0, .ref h2])), (a68, .inr (1, [.int 0, .int (-1), .int 0, .ref h2])), (a90, .inr (1, [.int 0, .int (-1), .int 0, .ref h2])), (h3, .inr (0, [.int 19, .ref h4, .int 4])), (h4, .inl (kc0, 10, .inr (.inr (.inr (.inr (va_up (va_up (va_up (va_up (fun _ => none) 0 (some (z.2.2.1 128))) 1 (some (z.2.2.1 129))) 2 (some (z.2.2.1 130))) 3 (some (z.2.2.1 131)))))))), (h1, .inr (0, [.int 5, .ref o1, .int 5])), (a112, .inr (1, [.int 0, .int (-1), .int 0, .ref h2])), (h2, .inr (0, [.int 0, .ref z.1, .int 0]))] := hD
  refine lv_aload_n hx hb dX9_putInOrder_144 rfl (lv_at hl 4 rfl) ?_
  refine va_get (D := (dC, dI)) (ci := 8) (v := .ref h3) (C := RX9) (T := TX9) (N := 6) hx hb hts in_X9 hown hK hP 0 rfl rfl 4 (by decide) (hts _ q_67) (fun _ h9 => h9) rfl dX9_putInOrder_145 ?_
  refine lv_iload_n hx hb dX9_putInOrder_148 rfl (lv_at hl 2 rfl) ?_
  have hF118 := va_free (wc := []) hD hS hA [] rfl
  refine va_callr (va_runS (As := [.int 4]) (rest := [.ref h3]) ⟨hx, hb, hml, hown, hts⟩ (k435_valueOf l hl9 dC dI z H117.size) (va_cwS 1 hts (gS q_295 q_296 q_297 q_294) rfl rfl rfl (by decide +kernel) ⟨Nat.le_of_ble_eq_true rfl, Nat.le_of_ble_eq_true rfl⟩) ⟨pc_blind, fun U hU hW => ⟨rfl, pc_mk hP hD hK hS hX hT [] [] rfl rfl rfl rfl hF118 hU hW⟩⟩ rfl rfl hl.1 rfl (lv_room (Nat.le_of_ble_eq_true rfl)) dX9_putInOrder_149 ⟨(Nat.le_of_ble_eq_true rfl), (Nat.le_of_ble_eq_true rfl)⟩) hS (fun q9 _ h9 => hF118 q9 h9) hF118 (fun u120 r121 t120 H120 L120 ht120 hvm120 hw120 hB120 hz120 hk120 hS => ?_)
  obtain ⟨hr120, hB120⟩ := hB120
  obtain ⟨hP, hD, hK⟩ := pq_join (wr := [(h0, .inr (8, [.int 0, .ref h1, .ref h2, .ref o0, .ref h3, .int 0])), (a1, .inl (k2, 40, .inl (upd (upd (upd (upd (upd (fun _ => 0) 0 1) 1 1) 2 1) 3 1) 4 1))), (a24, .inr (1, [.int 0, .int (-1), .int 0, .ref h2])), (a46, .inr (1, [.int 0, .int (-1), .int 0, .ref h2])), (a68, .inr (1, [.int 0, .int (-1), .int 0, .ref h2])), (a90, .inr (1, [.int 0, .int (-1), .int 0, .ref h2])), (h3, .inr (0, [.int 19, .ref h4, .int 4])), (h4, .inl (kc0, 10, .inr (.inr (.inr (.inr (va_up (va_up (va_up (va_up (fun _ => none) 0 (some (z.2.2.1 128))) 1 (some (z.2.2.1 129))) 2 (some (z.2.2.1 130))) 3 (some (z.2.2.1 131)))))))), (h1, .inr (0, [.int 5, .ref o1, .int 5])), (a112, .inr (1, [.int 0, .int (-1), .int 0, .ref h2])), (h2, .inr (0, [.int 0, .ref z.1, .int 0]))]) (tr := [(k2, .boolean), (kc0, .object "java/lang/Object")]) (wz := [(h0, .inr (8, [.int 0, .ref h1, .ref h2, .ref o0, .ref h3, .int 0])), (a1, .inl (k2, 40, .inl (upd (upd (upd (upd (upd (fun _ => 0) 0 1) 1 1) 2 1) 3 1) 4 1))), (a24, .inr (1, [.int 0, .int (-1), .int 0, .ref h2])), (a46, .inr (1, [.int 0, .int (-1), .int 0, .ref h2])), (a68, .inr (1, [.int 0, .int (-1), .int 0, .ref h2])), (a90, .inr (1, [.int 0, .int (-1), .int 0, .ref h2])), (h3, .inr (0, [.int 19, .ref h4, .int 4])), (h4, .inl (kc0, 10, .inr (.inr (.inr (.inr (va_up (va_up (va_up (va_up (fun _ => none) 0 (some (z.2.2.1 128))) 1 (some (z.2.2.1 129))) 2 (some (z.2.2.1 130))) 3 (some (z.2.2.1 131)))))))), (h1, .inr (0, [.int 5, .ref o1, .int 5])), (a112, .inr (1, [.int 0, .int (-1), .int 0, .ref h2])), (h2, .inr (0, [.int 0, .ref z.1, .int 0]))]) (tz := [(k2, .boolean), (kc0, .object "java/lang/Object")]) hP hD hK [] [0, 1, 2, 3, 4, 5, 6, 7, 8, 9, 10] [0, 1] rfl rfl (by decide) (by decide) rfl hk120 hF118 hB120.1 ht120 hvm120 rfl rfl
  have hG : s.heap.size + 6 ≤ H120.size := Nat.le_trans hG hz120
  refine W.eq (g2 := F0 m 152 ls [.ref (z.2.2.1 132), .ref h3]) (by rw [hr120]) ?_
  have hF122 := va_free (wc := [(h3, .inr (0, [.int 19, .ref h4, .int 4])), (h4, .inl (kc0, 10, .inr (.inr (.inr (.inr (va_up (va_up (va_up (va_up (fun _ => none) 0 (some (z.2.2.1 128))) 1 (some (z.2.2.1 129))) 2 (some (z.2.2.1 130))) 3 (some (z.2.2.1 131))))))))]) hD hS hA [6, 7] rfl
  refine va_calli (va_runV (As := [.ref (z.2.2.1 132)]) (rest := []) ⟨hx, hb, hml, hown, hts⟩ (k437_add l hl9 dC dI z h3 h4 H120.size kc0) (cwV 1 hts (gV q_284 q_128 q_129 q_12 q_126) rfl rfl rfl (by decide +kernel) ⟨Nat.le_of_ble_eq_true rfl, Nat.le_of_ble_eq_true rfl⟩) ⟨pc_blind, va_recv hK hP (ci := 0) (q0 := 6) rfl rfl, fun U hU hW => ⟨rfl, pc_mk hP hD hK hS hX hT [6, 7] [1] rfl rfl rfl rfl hF122 hU hW⟩⟩ rfl rfl hl.1 rfl (lv_room (Nat.le_of_ble_eq_true rfl)) dX9_putInOrder_152 ⟨(Nat.le_of_ble_eq_true rfl), (Nat.le_of_ble_eq_true rfl)⟩) hS (fun q9 _ h9 => hF122 q9 h9) hF122 (fun r125 u124 t124 H124 L124 ht124 hvm124 hw124 hB124 hz124 hk124 hS => ?_)
  obtain ⟨hP, hD, hK⟩ := pq_join (wr := [(h0, .inr (8, [.int 0, .ref h1, .ref h2, .ref o0, .ref h3, .int 0])), (a1, .inl (k2, 40, .inl (upd (upd (upd (upd (upd (fun _ => 0) 0 1) 1 1) 2 1) 3 1) 4 1))), (a24, .inr (1, [.int 0, .int (-1), .int 0, .ref h2])), (a46, .inr (1, [.int 0, .int (-1), .int 0, .ref h2])), (a68, .inr (1, [.int 0, .int (-1), .int 0, .ref h2])), (a90, .inr (1, [.int 0, .int (-1), .int 0, .ref h2])), (h1, .inr (0, [.int 5, .ref o1, .int 5])), (a112, .inr (1, [.int 0, .int (-1), .int 0, .ref h2])), (h2, .inr (0, [.int 0, .ref z.1, .int 0]))]) (tr := [(k2, .boolean)]) (wz := [(h0, .inr (8, [.int 0, .ref h1, .ref h2, .ref o0, .ref h3, .int 0])), (a1, .inl (k2, 40, .inl (upd (upd (upd (upd (upd (fun _ => 0) 0 1) 1 1) 2 1) 3 1) 4 1))), (a24, .inr (1, [.int 0, .int (-1), .int 0, .ref h2])), (a46, .inr (1, [.int 0, .int (-1), .int 0, .ref h2])), (a68, .inr (1, [.int 0, .int (-1), .int 0, .ref h2])), (a90, .inr (1, [.int 0, .int (-1), .int 0, .ref h2])), (h1, .inr (0, [.int 5, .ref o1, .int 5])), (a112, .inr (1, [.int 0, .int (-1), .int 0, .ref h2])), (h2, .inr (0, [.int 0, .ref z.1, .int 0])), (h3, .inr (0, [.int 20, .ref h4, .int 5])), (h4, .inl (kc0, 10, .inr (.inr (.inr (.inr (va_up (va_up (va_up (va_up (va_up (fun _ => none) 0 (some (z.2.2.1 128))) 1 (some (z.2.2.1 129))) 2 (some (z.2.2.1 130))) 3 (some (z.2.2.1 131))) 4 (some (z.2.2.1 132))))))))]) (tz := [(k2, .boolean), (kc0, .object "java/lang/Object")]) hP hD hK [6, 7] [0, 1, 2, 3, 4, 5, 8, 9, 10] [0] rfl rfl (by decide) (by decide) rfl hk124 hF122 hB124.1 ht124 hvm124 rfl rfl
  have hG : s.heap.size + 6 ≤ H124.size := Nat.le_trans hG hz124
  refine W.eq (g2 := F0 m 155 ls [.int 1]) (by rw [hw124]) ?_
  refine lv_pop hx hb dX9_putInOrder_155 rfl ?_
  refine lv_iinc (v := 5) (lv' := [(2, .int 5), (4, .ref a112), (3, .int 1), (1, .ref a1), (0, .ref h0)]) hx hb dX9_putInOrder_156 hl (k := 2) rfl (by decide) (by decide) rfl (fun ls hl => ?_)
  refine lv_goto (tgt := 31) hx hb dX9_putInOrder_159 (by decide) ?_
  refine lv_iload_n hx hb dX9_putInOrder_31 rfl (lv_at hl 0 rfl) ?_
  refine lv_aload_n hx hb dX9_putInOrder_32 rfl (lv_at hl 4 rfl) ?_
  refine va_get (D := (dC, dI)) (ci := 8) (v := .ref h1) (C := RX9) (T := TX9) (N := 6) hx hb hts in_X9 hown hK hP 0 rfl rfl 1 (by decide) (hts _ q_64) (fun _ h9 => h9) rfl dX9_putInOrder_33 ?_
  have hF126 := va_free (wc := [(h1, .inr (0, [.int 5, .ref o1, .int 5]))]) hD hS hA [6] rfl
  refine va_calli (va_runV (As := []) (rest := [.int 5]) ⟨hx, hb, hml, hown, hts⟩ (k20_size l hl9 dC dI z h1 o1 H124.size 5 5) (cwV 0 hts (gV q_272 q_77 q_78 q_12 q_75) rfl rfl rfl (by decide +kernel) ⟨Nat.le_of_ble_eq_true rfl, Nat.le_of_ble_eq_true rfl⟩) ⟨pc_blind, va_recv hK hP (ci := 0) (q0 := 6) rfl rfl, fun U hU hW => ⟨rfl, pc_mk hP hD hK hS hX hT [6] [] rfl rfl rfl rfl hF126 hU hW⟩⟩ rfl rfl hl.1 rfl (lv_room (Nat.le_of_ble_eq_true rfl)) dX9_putInOrder_36 ⟨(Nat.le_of_ble_eq_true rfl), (Nat.le_of_ble_eq_true rfl)⟩) hS (fun q9 _ h9 => hF126 q9 h9) hF126 (fun r129 u128 t128 H128 L128 ht128 hvm128 hw128 hB128 hz128 hk128 hS => ?_)
  obtain ⟨hP, hD, hK⟩ := pq_join (wr := [(h0, .inr (8, [.int 0, .ref h1, .ref h2, .ref o0, .ref h3, .int 0])), (a1, .inl (k2, 40, .inl (upd (upd (upd (upd (upd (fun _ => 0) 0 1) 1 1) 2 1) 3 1) 4 1))), (a24, .inr (1, [.int 0, .int (-1), .int 0, .ref h2])), (a46, .inr (1, [.int 0, .int (-1), .int 0, .ref h2])), (a68, .inr (1, [.int 0, .int (-1), .int 0, .ref h2])), (a90, .inr (1, [.int 0, .int (-1), .int 0, .ref h2])), (a112, .inr (1, [.int 0, .int (-1), .int 0, .ref h2])), (h2, .inr (0, [.int 0, .ref z.1, .int 0])), (h3, .inr (0, [.int 20, .ref h4, .int 5])), (h4, .inl (kc0, 10, .inr (.inr (.inr (.inr (va_up (va_up (va_up (va_up (va_up (fun _ => none) 0 (some (z.2.2.1 128))) 1 (some (z.2.2.1 129))) 2 (some (z.2.2.1 130))) 3 (some (z.2.2.1 131))) 4 (some (z.2.2.1 132))))))))]) (tr := [(k2, .boolean), (kc0, .object "java/lang/Object")]) (wz := [(h0, .inr (8, [.int 0, .ref h1, .ref h2, .ref o0, .ref h3, .int 0])), (a1, .inl (k2, 40, .inl (upd (upd (upd (upd (upd (fun _ => 0) 0 1) 1 1) 2 1) 3 1) 4 1))), (a24, .inr (1, [.int 0, .int (-1), .int 0, .ref h2])), (a46, .inr (1, [.int 0, .int (-1), .int 0, .ref h2])), (a68, .inr (1, [.int 0, .int (-1), .int 0, .ref h2])), (a90, .inr (1, [.int 0, .int (-1), .int 0, .ref h2])), (a112, .inr (1, [.int 0, .int (-1), .int 0, .ref h2])), (h2, .inr (0, [.int 0, .ref z.1, .int 0])), (h3, .inr (0, [.int 20, .ref h4, .int 5])), (h4, .inl (kc0, 10, .inr (.inr (.inr (.inr (va_up (va_up (va_up (va_up (va_up (fun _ => none) 0 (some (z.2.2.1 128))) 1 (some (z.2.2.1 129))) 2 (some (z.2.2.1 130))) 3 (some (z.2.2.1 131))) 4 (some (z.2.2.1 132)))))))), (h1, .inr (0, [.int 5, .ref o1, .int 5]))]) (tz := [(k2, .boolean), (kc0, .object "java/lang/Object")]) hP hD hK [6] [0, 1, 2, 3, 4, 5, 7, 8, 9, 10] [0, 1] rfl rfl (by decide) (by decide) rfl hk128 hF126 hB128.1 ht128 hvm128 rfl rfl
  have hG : s.heap.size + 6 ≤ H128.size := Nat.le_trans hG hz128
  refine W.eq (g2 := F0 m 39 ls [.int 5, .int 5]) (by rw [hw128]) ?_
  refine lv_icmp_ge (tgt := 162) hx hb dX9_putInOrder_39 (by decide) (fun _ => ?_) (fun cz => absurd (by decide) cz)
  refine lv_goto (tgt := 12) hx hb dX9_putInOrder_162 (by decide) ?_
  refine lv_aload_n hx hb dX9_putInOrder_12 rfl (lv_at hl 4 rfl) ?_
  refine va_get (D := (dC, dI)) (ci := 8) (v := .ref h3) (C := RX9) (T := TX9) (N := 6) hx hb hts in_X9 hown hK hP 0 rfl rfl 4 (by decide) (hts _ q_67) (fun _ h9 => h9) rfl dX9_putInOrder_13 ?_
  have hF130 := va_free (wc := [(h3, .inr (0, [.int 20, .ref h4, .int 5]))]) hD hS hA [8] rfl
  refine va_calli (va_runV (As := []) (rest := []) ⟨hx, hb, hml, hown, hts⟩ (k20_size l hl9 dC dI z h3 h4 H128.size 20 5) (cwV 0 hts (gV q_272 q_77 q_78 q_12 q_75) rfl rfl rfl (by decide +kernel) ⟨Nat.le_of_ble_eq_true rfl, Nat.le_of_ble_eq_true rfl⟩) ⟨pc_blind, va_recv hK hP (ci := 0) (q0 := 8) rfl rfl, fun U hU hW => ⟨rfl, pc_mk hP hD hK hS hX hT [8] [] rfl rfl rfl rfl hF130 hU hW⟩⟩ rfl rfl hl.1 rfl (lv_room (Nat.le_of_ble_eq_true rfl)) dX9_putInOrder_16 ⟨(Nat.le_of_ble_eq_true rfl), (Nat.le_of_ble_eq_true rfl)⟩) hS (fun q9 _ h9 => hF130 q9 h9) hF130 (fun r133 u132 t132 H132 L132 ht132 hvm132 hw132 hB132 hz132 hk132 hS => ?_)
  obtain ⟨hP, hD, hK⟩ := pq_join (wr := [(h0, .inr (8, [.int 0, .ref h1, .ref h2, .ref o0, .ref h3, .int 0])), (a1, .inl (k2, 40, .inl (upd (upd (upd (upd (upd (fun _ => 0) 0 1) 1 1) 2 1) 3 1) 4 1))), (a24, .inr (1, [.int 0, .int (-1), .int 0, .ref h2])), (a46, .inr (1, [.int 0, .int (-1), .int 0, .ref h2])), (a68, .inr (1, [.int 0, .int (-1), .int 0, .ref h2])), (a90, .inr (1, [.int 0, .int (-1), .int 0, .ref h2])), (a112, .inr (1, [.int 0, .int (-1), .int 0, .ref h2])), (h2, .inr (0, [.int 0, .ref z.1, .int 0])), (h4, .inl (kc0, 10, .inr (.inr (.inr (.inr (va_up (va_up (va_up (va_up (va_up (fun _ => none) 0 (some (z.2.2.1 128))) 1 (some (z.2.2.1 129))) 2 (some (z.2.2.1 130))) 3 (some (z.2.2.1 131))) 4 (some (z.2.2.1 132)))))))), (h1, .inr (0, [.int 5, .ref o1, .int 5]))]) (tr := [(k2, .boolean), (kc0, .object "java/lang/Object")]) (wz := [(h0, .inr (8, [.int 0, .ref h1, .ref h2, .ref o0, .ref h3, .int 0])), (a1, .inl (k2, 40, .inl (upd (upd (upd (upd (upd (fun _ => 0) 0 1) 1 1) 2 1) 3 1) 4 1))), (a24, .inr (1, [.int 0, .int (-1), .int 0, .ref h2])), (a46, .inr (1, [.int 0, .int (-1), .int 0, .ref h2])), (a68, .inr (1, [.int 0, .int (-1), .int 0, .ref h2])), (a90, .inr (1, [.int 0, .int (-1), .int 0, .ref h2])), (a112, .inr (1, [.int 0, .int (-1), .int 0, .ref h2])), (h2, .inr (0, [.int 0, .ref z.1, .int 0])), (h4, .inl (kc0, 10, .inr (.inr (.inr (.inr (va_up (va_up (va_up (va_up (va_up (fun _ => none) 0 (some (z.2.2.1 128))) 1 (some (z.2.2.1 129))) 2 (some (z.2.2.1 130))) 3 (some (z.2.2.1 131))) 4 (some (z.2.2.1 132)))))))), (h1, .inr (0, [.int 5, .ref o1, .int 5])), (h3, .inr (0, [.int 20, .ref h4, .int 5]))]) (tz := [(k2, .boolean), (kc0, .object "java/lang/Object")]) hP hD hK [8] [0, 1, 2, 3, 4, 5, 6, 7, 9, 10] [0, 1] rfl rfl (by decide) (by decide) rfl hk132 hF130 hB132.1 ht132 hvm132 rfl rfl
  have hG : s.heap.size + 6 ≤ H132.size := Nat.le_trans hG hz132
  refine W.eq (g2 := F0 m 19 ls [.int 5]) (by rw [hw132]) ?_
  refine lv_aload_n hx hb dX9_putInOrder_19 rfl (lv_at hl 4 rfl) ?_
  refine va_get (D := (dC, dI)) (ci := 8) (v := .ref h1) (C := RX9) (T := TX9) (N := 6) hx hb hts in_X9 hown hK hP 0 rfl rfl 1 (by decide) (hts _ q_64) (fun _ h9 => h9) rfl dX9_putInOrder_20 ?_
  have hF134 := va_free (wc := [(h1, .inr (0, [.int 5, .ref o1, .int 5]))]) hD hS hA [9] rfl
  refine va_calli (va_runV (As := []) (rest := [.int 5]) ⟨hx, hb, hml, hown, hts⟩ (k20_size l hl9 dC dI z h1 o1 H132.size 5 5) (cwV 0 hts (gV q_272 q_77 q_78 q_12 q_75) rfl rfl rfl (by decide +kernel) ⟨Nat.le_of_ble_eq_true rfl, Nat.le_of_ble_eq_true rfl⟩) ⟨pc_blind, va_recv hK hP (ci := 0) (q0 := 9) rfl rfl, fun U hU hW => ⟨rfl, pc_mk hP hD hK hS hX hT [9] [] rfl rfl rfl rfl hF134 hU hW⟩⟩ rfl rfl hl.1 rfl (lv_room (Nat.le_of_ble_eq_true rfl)) dX9_putInOrder_23 ⟨(Nat.le_of_ble_eq_true rfl), (Nat.le_of_ble_eq_true rfl)⟩) hS (fun q9 _ h9 => hF134 q9 h9) hF134 (fun r137 u136 t136 H136 L136 ht136 hvm136 hw136 hB136 hz136 hk136 hS => ?_)
  obtain ⟨hP, hD, hK⟩ := pq_join (wr := [(h0, .inr (8, [.int 0, .ref h1, .ref h2, .ref o0, .ref h3, .int 0])), (a1, .inl (k2, 40, .inl (upd (upd (upd (upd (upd (fun _ => 0) 0 1) 1 1) 2 1) 3 1) 4 1))), (a24, .inr (1, [.int 0, .int (-1), .int 0, .ref h2])), (a46, .inr (1, [.int 0, .int (-1), .int 0, .ref h2])), (a68, .inr (1, [.int 0, .int (-1), .int 0, .ref h2])), (a90, .inr (1, [.int 0, .int (-1), .int 0, .ref h2])), (a112, .inr (1, [.int 0, .int (-1), .int 0, .ref h2])), (h2, .inr (0, [.int 0, .ref z.1, .int 0])), (h4, .inl (kc0, 10, .inr (.inr (.inr (.inr (va_up (va_up (va_up (va_up (va_up (fun _ => none) 0 (some (z.2.2.1 128))) 1 (some (z.2.2.1 129))) 2 (some (z.2.2.1 130))) 3 (some (z.2.2.1 131))) 4 (some (z.2.2.1 132)))))))), (h3, .inr (0, [.int 20, .ref h4, .int 5]))]) (tr := [(k2, .boolean), (kc0, .object "java/lang/Object")]) (wz := [(h0, .inr (8, [.int 0, .ref h1, .ref h2, .ref o0, .ref h3, .int 0])), (a1, .inl (k2, 40, .inl (upd (upd (upd (upd (upd (fun _ => 0) 0 1) 1 1) 2 1) 3 1) 4 1))), (a24, .inr (1, [.int 0, .int (-1), .int 0, .ref h2])), (a46, .inr (1, [.int 0, .int (-1), .int 0, .ref h2])), (a68, .inr (1, [.int 0, .int (-1), .int 0, .ref h2])), (a90, .inr (1, [.int 0, .int (-1), .int 0, .ref h2])), (a112, .inr (1, [.int 0, .int (-1), .int 0, .ref h2])), (h2, .inr (0, [.int 0, .ref z.1, .int 0])), (h4, .inl (kc0, 10, .inr (.inr (.inr (.inr (va_up (va_up (va_up (va_up (va_up (fun _ => none) 0 (some (z.2.2.1 128))) 1 (some (z.2.2.1 129))) 2 (some (z.2.2.1 130))) 3 (some (z.2.2.1 131))) 4 (some (z.2.2.1 132)))))))), (h3, .inr (0, [.int 20, .ref h4, .int 5])), (h1, .inr (0, [.int 5, .ref o1, .int 5]))]) (tz := [(k2, .boolean), (kc0, .object "java/lang/Object")]) hP hD hK [9] [0, 1, 2, 3, 4, 5, 6, 7, 8, 10] [0, 1] rfl rfl (by decide) (by decide) rfl hk136 hF134 hB136.1 ht136 hvm136 rfl rfl
  have hG : s.heap.size + 6 ≤ H136.size := Nat.le_trans hG hz136
  refine W.eq (g2 := F0 m 26 ls [.int 5, .int 5]) (by rw [hw136]) ?_
  refine lv_icmp_ge (tgt := 165) hx hb dX9_putInOrder_26 (by decide) (fun _ => ?_) (fun cz => absurd (by decide) cz)
  exact W.vret hx hb hr (fun t9 ht9 hW9 => ⟨⟨(), rfl, trivial, ⟨pq_mk (wc := [(h0, .inr (8, [.int 0, .ref h1, .ref h2, .ref o0, .ref h3, .int 0])), (h1, .inr (0, [.int 5, .ref o1, .int 5])), (h2, .inr (0, [.int 0, .ref z.1, .int 0])), (h3, .inr (0, [.int 20, .ref h4, .int 5])), (h4, .inl (kc0, 10, .inr (.inr (.inr (.inr (va_up (va_up (va_up (va_up (va_up (fun _ => none) 0 (some (z.2.2.1 128))) 1 (some (z.2.2.1 129))) 2 (some (z.2.2.1 130))) 3 (some (z.2.2.1 131))) 4 (some (z.2.2.1 132))))))))]) (tc := [(kc0, .object "java/lang/Object")]) hP hD hK [0, 10, 7, 9, 8] [1] rfl rfl rfl rfl ht9 hW9, by rw [ht9]; exact Nat.le_trans (Nat.add_le_add_left (Nat.le_of_ble_eq_true rfl) _) hG⟩⟩, hS.F ht9⟩) hS.2.2 dX9_putInOrder_165

set_option maxHeartbeats 4000000 in
set_option maxRecDepth 100000 in
theorem k439_init (l : Launch) (hl9 : l.stackTraces = false) (dC : Nat → ClassId) (dI : Nat → Nat → Nat) (z : XZ) (h0 h1 : Nat) (o0 : Nat) (sz : Nat) : Met l yJx35411_init_45d68 (.code yJx35411_init_45d68 cJx35411_init_45d68 2 none :: wsL_law) ({ frames := 1, cells := 0, slots := 0, locals := 16 }) (va_Pc [.ref h0, .ref h1] (PC (dC, dI) [(h0, .inr (1, [.int 0, .int 0, .int 0, .null])), (h1, .inr (0, [.int 5, .ref o0, .int 5]))] [] sz z)) (va_Qv (fun (_ : Unit) => True) (fun (_ : Unit) (t : State) => PG (dC, dI) [(h0, .inr (1, [.int 0, .int (-1), .int 5, .ref h1])), (h1, .inr (0, [.int 5, .ref o0, .int 5]))] [] (va_A [(h0, .inr (1, [.int 0, .int 0, .int 0, .null])), (h1, .inr (0, [.int 5, .ref o0, .int 5]))] sz) sz 0 t) (va_A [(h0, .inr (1, [.int 0, .int 0, .int 0, .null])), (h1, .inr (0, [.int 5, .ref o0, .int 5]))] sz)) 0 0 (va_A [(h0, .inr (1, [.int 0, .int 0, .int 0, .null])), (h1, .inr (0, [.int 5, .ref o0, .int 5]))] sz) := by
  refine Met.ofW (cc := cJx35411_init_45d68) (maxL := 2) (ret := none) (by decide) rfl ?_
  intro p e s m args below meth c s₁ B hml hv
  obtain ⟨rfl, hsz, hP, hK, hD0, hX, hT⟩ := hv
  have hx := B.exec
  have hb := B.bytes
  have hr := B.returns
  have hts0 := atoms_spec (ws := .code yJx35411_init_45d68 cJx35411_init_45d68 2 none :: wsL_law) B.pre
  have hts := xTail hts0
  have hown : s.vm.findClass RJx35411 = some m.cls := findClass_of_methodNamed B.named
  have hlocks := B.notSynchronized
  have hin : meth.name = "<init>" := (name_of_methodNamed B.named B.method).1
  subst hsz
  have hD := hD0.self (sz := s.heap.size)
  generalize hAe : va_A [(h0, .inr (1, [.int 0, .int 0, .int 0, .null])), (h1, .inr (0, [.int 5, .ref o0, .int 5]))] s.heap.size = A at hD hX ⊢
  have hA : ∀ q : Nat, s.heap.size ≤ q → A q := fun q h => by rw [← hAe]; exact Or.inr h
  have hS : va_S A s.heap s.heap [] := va_S.rf
  have hG : s.heap.size + 0 ≤ s.heap.size := Nat.le_refl _
  have hl := lv_entry ([.ref h0, .ref h1]) (n := 2) (Nat.le_of_ble_eq_true rfl)
  rw [lg_entry_eq]
  generalize (lg_sl ([.ref h0, .ref h1]) ++ List.replicate (2 - (lg_sl ([.ref h0, .ref h1])).length) Slot.unset).toArray = ls at hl ⊢
  have hl : lv_has ls 2 [(0, .ref h0), (1, .ref h1)] := hl
  refine lv_aload_n hx hb dJx35411_init_45d68_0 rfl (lv_at hl 0 rfl) ?_
  refine lv_aload_n hx hb dJx35411_init_45d68_1 rfl (lv_at hl 1 rfl) ?_
  refine va_putF (D := (dC, dI)) (ci := 1) (v := .ref h1) (ty := .object "java/util/ArrayList") (C := RJx35411) (T := TJx35411) (N := 4) hx hb hts in_Jx35411 tyJx35411 tyJx35411_ok nmJx35411 hown hK hP hD (va_Sre hS) 0 rfl rfl 3 (by decide) (hts _ q_247) (fun _ h9 => h9) rfl hin rfl (by decide +kernel) rfl rfl (Nat.le_of_ble_eq_true rfl) dJx35411_init_45d68_2 (fun H1 _ hP hD hS' => ?_)
  have hG : s.heap.size + 0 ≤ H1.size := Nat.le_trans hG hS'.1
  have hS := va_Str hS hS'
  have hP : va_P (dC, dI) xCl [(h0, .inr (1, [.int 0, .int 0, .int 0, .ref h1])), (h1, .inr (0, [.int 5, .ref o0, .int 5]))] H1 := hP
  have hD : va_D A [(h0, .inr (1, [.int 0, .int 0, .int 0, .ref h1])), (h1, .inr (0, [.int 5, .ref o0, .int 5]))] := hD
  refine lv_aload_n hx hb dJx35411_init_45d68_5 rfl (lv_at hl 0 rfl) ?_
  refine W.objInit hx hb hown (hts _ q_248) (hts _ q_4) (hts _ q_5) rfl (by rw [hml]; exact hl.1) rfl dJx35411_init_45d68_6 (Nat.le_of_ble_eq_true rfl) (Nat.le_of_ble_eq_true rfl) ?_
  refine W.eq (g2 := F0 m 9 ls []) rfl ?_
  refine lv_aload_n hx hb dJx35411_init_45d68_9 rfl (lv_at hl 0 rfl) ?_
  refine lv_iconst (v := (-1)) hx hb dJx35411_init_45d68_10 (by decide) ?_
  refine va_put (D := (dC, dI)) (ci := 1) (v := .int (-1)) (ty := .int) (C := RJx35411) (T := TJx35411) (N := 4) hx hb hts in_Jx35411 tyJx35411 tyJx35411_ok nmJx35411 hown hK hP hD (va_Sre hS) 0 rfl rfl 1 (by decide) (hts _ q_249) (fun _ h9 => h9) rfl (by decide +kernel) rfl rfl (Nat.le_of_ble_eq_true rfl) dJx35411_init_45d68_11 (fun H2 _ hP hD hS' => ?_)
  have hG : s.heap.size + 0 ≤ H2.size := Nat.le_trans hG hS'.1
  have hS := va_Str hS hS'
  have hP : va_P (dC, dI) xCl [(h0, .inr (1, [.int 0, .int (-1), .int 0, .ref h1])), (h1, .inr (0, [.int 5, .ref o0, .int 5]))] H2 := hP
  have hD : va_D A [(h0, .inr (1, [.int 0, .int (-1), .int 0, .ref h1])), (h1, .inr (0, [.int 5, .ref o0, .int 5]))] := hD
  refine lv_aload_n hx hb dJx35411_init_45d68_14 rfl (lv_at hl 0 rfl) ?_
  refine lv_aload_n hx hb dJx35411_init_45d68_15 rfl (lv_at hl 0 rfl) ?_
  refine va_get (D := (dC, dI)) (ci := 1) (v := .ref h1) (C := RJx35411) (T := TJx35411) (N := 4) hx hb hts in_Jx35411 hown hK hP 0 rfl rfl 3 (by decide) (hts _ q_247) (fun _ h9 => h9) rfl dJx35411_init_45d68_16 ?_
  refine va_get (D := (dC, dI)) (ci := 0) (v := .int 5) (C := RJx4a65c) (T := TJx4a65c) (N := 3) hx hb hts in_Jx4a65c hown hK hP 1 rfl rfl 0 (by decide) (hts _ q_250) (u_same (hts _ q_107)) rfl dJx35411_init_45d68_19 ?_
  refine va_put (D := (dC, dI)) (ci := 1) (v := .int 5) (ty := .int) (C := RJx35411) (T := TJx35411) (N := 4) hx hb hts in_Jx35411 tyJx35411 tyJx35411_ok nmJx35411 hown hK hP hD (va_Sre hS) 0 rfl rfl 2 (by decide) (hts _ q_251) (fun _ h9 => h9) rfl (by decide +kernel) rfl rfl (Nat.le_of_ble_eq_true rfl) dJx35411_init_45d68_22 (fun H3 _ hP hD hS' => ?_)
  have hG : s.heap.size + 0 ≤ H3.size := Nat.le_trans hG hS'.1
  have hS := va_Str hS hS'
  have hP : va_P (dC, dI) xCl [(h0, .inr (1, [.int 0, .int (-1), .int 5, .ref h1])), (h1, .inr (0, [.int 5, .ref o0, .int 5]))] H3 := hP
  have hD : va_D A [(h0, .inr (1, [.int 0, .int (-1), .int 5, .ref h1])), (h1, .inr (0, [.int 5, .ref o0, .int 5]))] := hD
  exact W.vret hx hb hr (fun t9 ht9 hW9 => ⟨⟨(), rfl, trivial, ⟨pq_mk (wc := [(h0, .inr (1, [.int 0, .int (-1), .int 5, .ref h1])), (h1, .inr (0, [.int 5, .ref o0, .int 5]))]) (tc := []) hP hD hK [0, 1] [] rfl rfl rfl rfl ht9 hW9, by rw [ht9]; exact Nat.le_trans (Nat.add_le_add_left (Nat.le_of_ble_eq_true rfl) _) hG⟩⟩, hS.F ht9⟩) hS.2.2 dJx35411_init_45d68_25

set_option maxHeartbeats 4000000 in
set_option maxRecDepth 100000 in
theorem k440_iterator (l : Launch) (hl9 : l.stackTraces = false) (dC : Nat → ClassId) (dI : Nat → Nat → Nat) (z : XZ) (h0 : Nat) (o0 : Nat) (sz : Nat) : Met l yJx4a65c_iterator_32c93 (.code yJx4a65c_iterator_32c93 cJx4a65c_iterator_32c93 1 (some (.object "java/util/Iterator")) :: wsL_law) ({ frames := 2, cells := 1, slots := 4, locals := 37 }) (va_Pc [.ref h0] (PC (dC, dI) [(h0, .inr (0, [.int 5, .ref o0, .int 5]))] [] sz z)) (va_Qr (fun (_ : Unit) => True) (fun (_ : Unit) (ra : Nat) (t : State) => ∃ (n0 : Nat), ra = n0 ∧ PG (dC, dI) [(h0, .inr (0, [.int 5, .ref o0, .int 5])), (n0, .inr (1, [.int 0, .int (-1), .int 5, .ref h0]))] [] (va_A [(h0, .inr (0, [.int 5, .ref o0, .int 5]))] sz) sz 1 t) (va_A [(h0, .inr (0, [.int 5, .ref o0, .int 5]))] sz)) 1 4 (va_A [(h0, .inr (0, [.int 5, .ref o0, .int 5]))] sz) := by
  refine Met.ofW (cc := cJx4a65c_iterator_32c93) (maxL := 1) (ret := (some (.object "java/util/Iterator"))) (by decide) rfl ?_
  intro p e s m args below meth c s₁ B hml hv
  obtain ⟨rfl, hsz, hP, hK, hD0, hX, hT⟩ := hv
  have hx := B.exec
  have hb := B.bytes
  have hr := B.returns
  have hts0 := atoms_spec (ws := .code yJx4a65c_iterator_32c93 cJx4a65c_iterator_32c93 1 (some (.object "java/util/Iterator")) :: wsL_law) B.pre
  have hts := xTail hts0
  have hown : s.vm.findClass RJx4a65c = some m.cls := findClass_of_methodNamed B.named
  have hlocks := B.notSynchronized
  subst hsz
  have hD := hD0.self (sz := s.heap.size)
  generalize hAe : va_A [(h0, .inr (0, [.int 5, .ref o0, .int 5]))] s.heap.size = A at hD hX ⊢
  have hA : ∀ q : Nat, s.heap.size ≤ q → A q := fun q h => by rw [← hAe]; exact Or.inr h
  have hS : va_S A s.heap s.heap [] := va_S.rf
  have hG : s.heap.size + 0 ≤ s.heap.size := Nat.le_refl _
  have hl := lv_entry ([.ref h0]) (n := 1) (Nat.le_of_ble_eq_true rfl)
  rw [lg_entry_eq]
  generalize (lg_sl ([.ref h0]) ++ List.replicate (1 - (lg_sl ([.ref h0])).length) Slot.unset).toArray = ls at hl ⊢
  have hl : lv_has ls 1 [(0, .ref h0)] := hl
  refine xa_new (ci := 1) (fs := [.int 0, .int 0, .int 0, .null]) (C := RJx35411) (T := TJx35411) (N := 4) hx hb hts in_Jx35411 tyJx35411 tyJx35411_ok hown (hts _ q_244) (hts _ q_245) (hts _ q_246) hK hP hD hS hA rfl nf_Jx35411 (Nat.le_of_ble_eq_true rfl) (Nat.le_of_ble_eq_true rfl) dJx4a65c_iterator_32c93_0 (fun a1 H2 hg8 hP hD hS => ?_)
  have hG : s.heap.size + 1 ≤ H2.size := by rw [hg8]; exact Nat.succ_le_succ hG
  have hP : va_P (dC, dI) xCl [(h0, .inr (0, [.int 5, .ref o0, .int 5])), (a1, .inr (1, [.int 0, .int 0, .int 0, .null]))] H2 := hP
  have hD : va_D A [(h0, .inr (0, [.int 5, .ref o0, .int 5])), (a1, .inr (1, [.int 0, .int 0, .int 0, .null]))] := hD
  refine W.widen (k := 1) (n := 4) (by decide) (by decide) ?_
  refine lv_dup hx hb dJx4a65c_iterator_32c93_3 rfl ?_
  refine lv_aload_n hx hb dJx4a65c_iterator_32c93_4 rfl (lv_at hl 0 rfl) ?_
  have hF3 := va_free (wc := [(a1, .inr (1, [.int 0, .int 0, .int 0, .null])), (h0, .inr (0, [.int 5, .ref o0, .int 5]))]) hD hS hA [1, 0] rfl
  refine va_callv (va_runI (As := [.ref h0]) (rest := [.ref a1]) ⟨hx, hb, hml, hown, hts⟩ (k439_init l hl9 dC dI z a1 h0 o0 H2.size) (cwI 1 hts (gIL q_252) rfl rfl rfl (hts _ q_246) (hts _ q_253) (hts _ q_254) rfl (by decide +kernel) ⟨Nat.le_of_ble_eq_true rfl, Nat.le_of_ble_eq_true rfl⟩) ⟨pc_blind, fun U hU hW => ⟨rfl, pc_mk hP hD hK hS hX hT [1, 0] [] rfl rfl rfl rfl hF3 hU hW⟩⟩ rfl rfl hl.1 rfl (lv_room (Nat.le_of_ble_eq_true rfl)) dJx4a65c_iterator_32c93_5 ⟨(Nat.le_of_ble_eq_true rfl), (Nat.le_of_ble_eq_true rfl)⟩) hS (fun q9 _ h9 => hF3 q9 h9) hF3 (fun u5 t5 H5 L5 ht5 hvm5 hw5 hB5 hz5 hk5 hS => ?_)
  obtain ⟨hP, hD, hK⟩ := pq_join (wr := []) (tr := []) (wz := [(a1, .inr (1, [.int 0, .int (-1), .int 5, .ref h0])), (h0, .inr (0, [.int 5, .ref o0, .int 5]))]) (tz := []) hP hD hK [1, 0] [] [] rfl rfl (by decide) (by decide) rfl hk5 hF3 hB5.1 ht5 hvm5 rfl rfl
  have hG : s.heap.size + 1 ≤ H5.size := Nat.le_trans hG hz5
  exact W.aret (v := .ref a1) hx hb hr (by first | exact Or.inl ⟨_, rfl⟩ | exact Or.inr ⟨_, rfl⟩) (Or.inr ⟨_, rfl⟩) (fun t9 ht9 hW9 => ⟨⟨(), a1, rfl, trivial, ⟨a1, rfl, ⟨pq_mk (wc := [(h0, .inr (0, [.int 5, .ref o0, .int 5])), (a1, .inr (1, [.int 0, .int (-1), .int 5, .ref h0]))]) (tc := []) hP hD hK [1, 0] [] rfl rfl rfl rfl ht9 hW9, by rw [ht9]; exact Nat.le_trans (Nat.add_le_add_left (Nat.le_of_ble_eq_true rfl) _) hG⟩⟩⟩, hS.F ht9⟩) hS.2.2 dJx4a65c_iterator_32c93_8

set_option maxHeartbeats 4000000 in
set_option maxRecDepth 100000 in
theorem k441_hasNext (l : Launch) (hl9 : l.stackTraces = false) (dC : Nat → ClassId) (dI : Nat → Nat → Nat) (z : XZ) (h0 h1 : Nat) (o0 : Nat) (sz : Nat) : Met l yJx35411_hasNext_aae02 (.code yJx35411_hasNext_aae02 cJx35411_hasNext_aae02 1 (some .boolean) :: wsL_law) ({ frames := 0, cells := 0, slots := 0, locals := 0 }) (va_Pc [.ref h0] (PC (dC, dI) [(h0, .inr (1, [.int 0, .int (-1), .int 5, .ref h1])), (h1, .inr (0, [.int 5, .ref o0, .int 5]))] [] sz z)) (va_Qi (fun (r : Int32) (_ : Unit) => r = 1) (fun (_ : Unit) (t : State) => PG (dC, dI) [(h0, .inr (1, [.int 0, .int (-1), .int 5, .ref h1])), (h1, .inr (0, [.int 5, .ref o0, .int 5]))] [] (va_A [(h0, .inr (1, [.int 0, .int (-1), .int 5, .ref h1])), (h1, .inr (0, [.int 5, .ref o0, .int 5]))] sz) sz 0 t) (va_A [(h0, .inr (1, [.int 0, .int (-1), .int 5, .ref h1])), (h1, .inr (0, [.int 5, .ref o0, .int 5]))] sz)) 0 0 (va_A [(h0, .inr (1, [.int 0, .int (-1), .int 5, .ref h1])), (h1, .inr (0, [.int 5, .ref o0, .int 5]))] sz) := by
  refine Met.ofW (cc := cJx35411_hasNext_aae02) (maxL := 1) (ret := (some .boolean)) (by decide) rfl ?_
  intro p e s m args below meth c s₁ B hml hv
  obtain ⟨rfl, hsz, hP, hK, hD0, hX, hT⟩ := hv
  have hx := B.exec
  have hb := B.bytes
  have hr := B.returns
  have hts0 := atoms_spec (ws := .code yJx35411_hasNext_aae02 cJx35411_hasNext_aae02 1 (some .boolean) :: wsL_law) B.pre
  have hts := xTail hts0
  have hown : s.vm.findClass RJx35411 = some m.cls := findClass_of_methodNamed B.named
  have hlocks := B.notSynchronized
  subst hsz
  have hD := hD0.self (sz := s.heap.size)
  generalize hAe : va_A [(h0, .inr (1, [.int 0, .int (-1), .int 5, .ref h1])), (h1, .inr (0, [.int 5, .ref o0, .int 5]))] s.heap.size = A at hD hX ⊢
  have hA : ∀ q : Nat, s.heap.size ≤ q → A q := fun q h => by rw [← hAe]; exact Or.inr h
  have hS : va_S A s.heap s.heap [] := va_S.rf
  have hG : s.heap.size + 0 ≤ s.heap.size := Nat.le_refl _
  have hl := lv_entry ([.ref h0]) (n := 1) (Nat.le_of_ble_eq_true rfl)
  rw [lg_entry_eq]
  generalize (lg_sl ([.ref h0]) ++ List.replicate (1 - (lg_sl ([.ref h0])).length) Slot.unset).toArray = ls at hl ⊢
  have hl : lv_has ls 1 [(0, .ref h0)] := hl
  refine lv_aload_n hx hb dJx35411_hasNext_aae02_0 rfl (lv_at hl 0 rfl) ?_
  refine va_get (D := (dC, dI)) (ci := 1) (v := .int 0) (C := RJx35411) (T := TJx35411) (N := 4) hx hb hts in_Jx35411 hown hK hP 0 rfl rfl 0 (by decide) (hts _ q_259) (fun _ h9 => h9) rfl dJx35411_hasNext_aae02_1 ?_
  refine lv_aload_n hx hb dJx35411_hasNext_aae02_4 rfl (lv_at hl 0 rfl) ?_
  refine va_get (D := (dC, dI)) (ci := 1) (v := .ref h1) (C := RJx35411) (T := TJx35411) (N := 4) hx hb hts in_Jx35411 hown hK hP 0 rfl rfl 3 (by decide) (hts _ q_247) (fun _ h9 => h9) rfl dJx35411_hasNext_aae02_5 ?_
  refine va_getN (D := (dC, dI)) (ci := 0) (v := .int 5) (C := RJx4a65c) (T := TJx4a65c) (N := 3) hx hb hts in_Jx4a65c hown hK hP 1 rfl rfl 2 (by decide) (va_Nw.use rfl hT.2.2.2.2.1) (fun _ h9 => h9) rfl dJx35411_hasNext_aae02_8 ?_
  refine lv_icmp_eq (tgt := 18) hx hb dJx35411_hasNext_aae02_11 (by decide) (fun cz => absurd cz (by decide)) (fun _ => ?_)
  refine lv_iconst (v := 1) hx hb dJx35411_hasNext_aae02_14 (by decide) ?_
  refine lv_goto (tgt := 19) hx hb dJx35411_hasNext_aae02_15 (by decide) ?_
  exact W.zret (v := 1) (ty := .boolean) hx hb hr rfl (fun t9 ht9 hW9 => ⟨⟨1, (), rfl, rfl, ⟨pq_mk (wc := [(h0, .inr (1, [.int 0, .int (-1), .int 5, .ref h1])), (h1, .inr (0, [.int 5, .ref o0, .int 5]))]) (tc := []) hP hD hK [0, 1] [] rfl rfl rfl rfl ht9 hW9, by rw [ht9]; exact Nat.le_trans (Nat.add_le_add_left (Nat.le_of_ble_eq_true rfl) _) hG⟩⟩, hS.F ht9⟩) hS.2.2 dJx35411_hasNext_aae02_19

set_option maxHeartbeats 4000000 in
set_option maxRecDepth 100000 in
theorem k442_checkForComodification (l : Launch) (hl9 : l.stackTraces = false) (dC : Nat → ClassId) (dI : Nat → Nat → Nat) (z : XZ) (h0 h1 : Nat) (o0 : Nat) (sz : Nat) : Met l yJx35411_checkForComodification_da8c8 (.code yJx35411_checkForComodification_da8c8 cJx35411_checkForComodification_da8c8 1 none :: wsL_law) ({ frames := 0, cells := 0, slots := 0, locals := 0 }) (va_Pc [.ref h0] (PC (dC, dI) [(h0, .inr (1, [.int 0, .int (-1), .int 5, .ref h1])), (h1, .inr (0, [.int 5, .ref o0, .int 5]))] [] sz z)) (va_Qv (fun (_ : Unit) => True) (fun (_ : Unit) (t : State) => PG (dC, dI) [(h0, .inr (1, [.int 0, .int (-1), .int 5, .ref h1])), (h1, .inr (0, [.int 5, .ref o0, .int 5]))] [] (va_A [(h0, .inr (1, [.int 0, .int (-1), .int 5, .ref h1])), (h1, .inr (0, [.int 5, .ref o0, .int 5]))] sz) sz 0 t) (va_A [(h0, .inr (1, [.int 0, .int (-1), .int 5, .ref h1])), (h1, .inr (0, [.int 5, .ref o0, .int 5]))] sz)) 0 0 (va_A [(h0, .inr (1, [.int 0, .int (-1), .int 5, .ref h1])), (h1, .inr (0, [.int 5, .ref o0, .int 5]))] sz) := by
  refine Met.ofW (cc := cJx35411_checkForComodification_da8c8) (maxL := 1) (ret := none) (by decide) rfl ?_
  intro p e s m args below meth c s₁ B hml hv
  obtain ⟨rfl, hsz, hP, hK, hD0, hX, hT⟩ := hv
  have hx := B.exec
  have hb := B.bytes
  have hr := B.returns
  have hts0 := atoms_spec (ws := .code yJx35411_checkForComodification_da8c8 cJx35411_checkForComodification_da8c8 1 none :: wsL_law) B.pre
  have hts := xTail hts0
  have hown : s.vm.findClass RJx35411 = some m.cls := findClass_of_methodNamed B.named
  have hlocks := B.notSynchronized
  subst hsz
  have hD := hD0.self (sz := s.heap.size)
  generalize hAe : va_A [(h0, .inr (1, [.int 0, .int (-1), .int 5, .ref h1])), (h1, .inr (0, [.int 5, .ref o0, .int 5]))] s.heap.size = A at hD hX ⊢
  have hA : ∀ q : Nat, s.heap.size ≤ q → A q := fun q h => by rw [← hAe]; exact Or.inr h
  have hS : va_S A s.heap s.heap [] := va_S.rf
  have hG : s.heap.size + 0 ≤ s.heap.size := Nat.le_refl _
  have hl := lv_entry ([.ref h0]) (n := 1) (Nat.le_of_ble_eq_true rfl)
  rw [lg_entry_eq]
  generalize (lg_sl ([.ref h0]) ++ List.replicate (1 - (lg_sl ([.ref h0])).length) Slot.unset).toArray = ls at hl ⊢
  have hl : lv_has ls 1 [(0, .ref h0)] := hl
  refine lv_aload_n hx hb dJx35411_checkForComodification_da8c8_0 rfl (lv_at hl 0 rfl) ?_
  refine va_get (D := (dC, dI)) (ci := 1) (v := .ref h1) (C := RJx35411) (T := TJx35411) (N := 4) hx hb hts in_Jx35411 hown hK hP 0 rfl rfl 3 (by decide) (hts _ q_247) (fun _ h9 => h9) rfl dJx35411_checkForComodification_da8c8_1 ?_
  refine va_get (D := (dC, dI)) (ci := 0) (v := .int 5) (C := RJx4a65c) (T := TJx4a65c) (N := 3) hx hb hts in_Jx4a65c hown hK hP 1 rfl rfl 0 (by decide) (hts _ q_250) (u_same (hts _ q_107)) rfl dJx35411_checkForComodification_da8c8_4 ?_
  refine lv_aload_n hx hb dJx35411_checkForComodification_da8c8_7 rfl (lv_at hl 0 rfl) ?_
  refine va_get (D := (dC, dI)) (ci := 1) (v := .int 5) (C := RJx35411) (T := TJx35411) (N := 4) hx hb hts in_Jx35411 hown hK hP 0 rfl rfl 2 (by decide) (hts _ q_251) (fun _ h9 => h9) rfl dJx35411_checkForComodification_da8c8_8 ?_
  refine lv_icmp_eq (tgt := 22) hx hb dJx35411_checkForComodification_da8c8_11 (by decide) (fun _ => ?_) (fun cz => absurd (by decide) cz)
  exact W.vret hx hb hr (fun t9 ht9 hW9 => ⟨⟨(), rfl, trivial, ⟨pq_mk (wc := [(h0, .inr (1, [.int 0, .int (-1), .int 5, .ref h1])), (h1, .inr (0, [.int 5, .ref o0, .int 5]))]) (tc := []) hP hD hK [0, 1] [] rfl rfl rfl rfl ht9 hW9, by rw [ht9]; exact Nat.le_trans (Nat.add_le_add_left (Nat.le_of_ble_eq_true rfl) _) hG⟩⟩, hS.F ht9⟩) hS.2.2 dJx35411_checkForComodification_da8c8_22

set_option maxHeartbeats 4000000 in
set_option maxRecDepth 100000 in
theorem k443_next (l : Launch) (hl9 : l.stackTraces = false) (dC : Nat → ClassId) (dI : Nat → Nat → Nat) (z : XZ) (h0 h1 h2 : Nat) (o0 o1 o2 o3 o4 : Nat) (sz : Nat) (kc0 : ClassId) : Met l yJx35411_next_0502b (.code yJx35411_next_0502b cJx35411_next_0502b 3 (some (.object "java/lang/Object")) :: wsL_law) ({ frames := 1, cells := 0, slots := 0, locals := 20 }) (va_Pc [.ref h0] (PC (dC, dI) [(h0, .inr (1, [.int 0, .int (-1), .int 5, .ref h1])), (h1, .inr (0, [.int 5, .ref h2, .int 5])), (h2, .inl (kc0, 10, .inr (.inr (.inr (.inr (va_up (va_up (va_up (va_up (va_up (fun _ => none) 0 (some o0)) 1 (some o1)) 2 (some o2)) 3 (some o3)) 4 (some o4)))))))] [(kc0, .object "java/lang/Object")] sz z)) (va_Qr (fun (_ : Unit) => True) (fun (_ : Unit) (ra : Nat) (t : State) => ra = o0 ∧ PG (dC, dI) [(h0, .inr (1, [.int 1, .int 0, .int 5, .ref h1])), (h1, .inr (0, [.int 5, .ref h2, .int 5])), (h2, .inl (kc0, 10, .inr (.inr (.inr (.inr (va_up (va_up (va_up (va_up (va_up (fun _ => none) 0 (some o0)) 1 (some o1)) 2 (some o2)) 3 (some o3)) 4 (some o4)))))))] [(kc0, .object "java/lang/Object")] (va_A [(h0, .inr (1, [.int 0, .int (-1), .int 5, .ref h1])), (h1, .inr (0, [.int 5, .ref h2, .int 5])), (h2, .inl (kc0, 10, .inr (.inr (.inr (.inr (va_up (va_up (va_up (va_up (va_up (fun _ => none) 0 (some o0)) 1 (some o1)) 2 (some o2)) 3 (some o3)) 4 (some o4)))))))] sz) sz 0 t) (va_A [(h0, .inr (1, [.int 0, .int (-1), .int 5, .ref h1])), (h1, .inr (0, [.int 5, .ref h2, .int 5])), (h2, .inl (kc0, 10, .inr (.inr (.inr (.inr (va_up (va_up (va_up (va_up (va_up (fun _ => none) 0 (some o0)) 1 (some o1)) 2 (some o2)) 3 (some o3)) 4 (some o4)))))))] sz)) 0 0 (va_A [(h0, .inr (1, [.int 0, .int (-1), .int 5, .ref h1])), (h1, .inr (0, [.int 5, .ref h2, .int 5])), (h2, .inl (kc0, 10, .inr (.inr (.inr (.inr (va_up (va_up (va_up (va_up (va_up (fun _ => none) 0 (some o0)) 1 (some o1)) 2 (some o2)) 3 (some o3)) 4 (some o4)))))))] sz) := by
  refine Met.ofW (cc := cJx35411_next_0502b) (maxL := 3) (ret := (some (.object "java/lang/Object"))) (by decide) rfl ?_
  intro p e s m args below meth c s₁ B hml hv
  obtain ⟨rfl, hsz, hP, hK, hD0, hX, hT⟩ := hv
  have hx := B.exec
  have hb := B.bytes
  have hr := B.returns
  have hts0 := atoms_spec (ws := .code yJx35411_next_0502b cJx35411_next_0502b 3 (some (.object "java/lang/Object")) :: wsL_law) B.pre
  have hts := xTail hts0
  have hown : s.vm.findClass RJx35411 = some m.cls := findClass_of_methodNamed B.named
  have hlocks := B.notSynchronized
  subst hsz
  have hD := hD0.self (sz := s.heap.size)
  generalize hAe : va_A [(h0, .inr (1, [.int 0, .int (-1), .int 5, .ref h1])), (h1, .inr (0, [.int 5, .ref h2, .int 5])), (h2, .inl (kc0, 10, .inr (.inr (.inr (.inr (va_up (va_up (va_up (va_up (va_up (fun _ => none) 0 (some o0)) 1 (some o1)) 2 (some o2)) 3 (some o3)) 4 (some o4)))))))] s.heap.size = A at hD hX ⊢
  have hA : ∀ q : Nat, s.heap.size ≤ q → A q := fun q h => by rw [← hAe]; exact Or.inr h
  have hS : va_S A s.heap s.heap [] := va_S.rf
  have hG : s.heap.size + 0 ≤ s.heap.size := Nat.le_refl _
  have hl := lv_entry ([.ref h0]) (n := 3) (Nat.le_of_ble_eq_true rfl)
  rw [lg_entry_eq]
  generalize (lg_sl ([.ref h0]) ++ List.replicate (3 - (lg_sl ([.ref h0])).length) Slot.unset).toArray = ls at hl ⊢
  have hl : lv_has ls 3 [(0, .ref h0)] := hl
  refine lv_aload_n hx hb dJx35411_next_0502b_0 rfl (lv_at hl 0 rfl) ?_
  have hF1 := va_free (wc := [(h0, .inr (1, [.int 0, .int (-1), .int 5, .ref h1])), (h1, .inr (0, [.int 5, .ref h2, .int 5]))]) hD hS hA [0, 1] rfl
  refine va_callv (va_runV (As := []) (rest := []) ⟨hx, hb, hml, hown, hts⟩ (k442_checkForComodification l hl9 dC dI z h0 h1 h2 s.heap.size) (cwV 0 hts (gV q_303 q_304 q_305 q_246 q_302) rfl rfl rfl (by decide +kernel) ⟨Nat.le_of_ble_eq_true rfl, Nat.le_of_ble_eq_true rfl⟩) ⟨pc_blind, va_recv hK hP (ci := 1) (q0 := 0) rfl rfl, fun U hU hW => ⟨rfl, pc_mk hP hD hK hS hX hT [0, 1] [] rfl rfl rfl rfl hF1 hU hW⟩⟩ rfl rfl hl.1 rfl (lv_room (Nat.le_of_ble_eq_true rfl)) dJx35411_next_0502b_1 ⟨(Nat.le_of_ble_eq_true rfl), (Nat.le_of_ble_eq_true rfl)⟩) hS (fun q9 _ h9 => hF1 q9 h9) hF1 (fun u3 t3 H3 L3 ht3 hvm3 hw3 hB3 hz3 hk3 hS => ?_)
  obtain ⟨hP, hD, hK⟩ := pq_join (wr := [(h2, .inl (kc0, 10, .inr (.inr (.inr (.inr (va_up (va_up (va_up (va_up (va_up (fun _ => none) 0 (some o0)) 1 (some o1)) 2 (some o2)) 3 (some o3)) 4 (some o4)))))))]) (tr := [(kc0, .object "java/lang/Object")]) (wz := [(h2, .inl (kc0, 10, .inr (.inr (.inr (.inr (va_up (va_up (va_up (va_up (va_up (fun _ => none) 0 (some o0)) 1 (some o1)) 2 (some o2)) 3 (some o3)) 4 (some o4))))))), (h0, .inr (1, [.int 0, .int (-1), .int 5, .ref h1])), (h1, .inr (0, [.int 5, .ref h2, .int 5]))]) (tz := [(kc0, .object "java/lang/Object")]) hP hD hK [0, 1] [2] [0] rfl rfl (by decide) (by decide) rfl hk3 hF1 hB3.1 ht3 hvm3 rfl rfl
  have hG : s.heap.size + 0 ≤ H3.size := Nat.le_trans hG hz3
  refine lv_aload_n hx hb dJx35411_next_0502b_4 rfl (lv_at hl 0 rfl) ?_
  refine va_get (D := (dC, dI)) (ci := 1) (v := .int 0) (C := RJx35411) (T := TJx35411) (N := 4) hx hb hts in_Jx35411 hown hK hP 1 rfl rfl 0 (by decide) (hts _ q_259) (fun _ h9 => h9) rfl dJx35411_next_0502b_5 ?_
  refine lv_istore_n (lv' := [(1, .int 0), (0, .ref h0)]) hx hb dJx35411_next_0502b_8 rfl hl (by decide) rfl (fun ls hl => ?_)
  refine lv_iload_n hx hb dJx35411_next_0502b_9 rfl (lv_at hl 0 rfl) ?_
  refine lv_aload_n hx hb dJx35411_next_0502b_10 rfl (lv_at hl 1 rfl) ?_
  refine va_get (D := (dC, dI)) (ci := 1) (v := .ref h1) (C := RJx35411) (T := TJx35411) (N := 4) hx hb hts in_Jx35411 hown hK hP 1 rfl rfl 3 (by decide) (hts _ q_247) (fun _ h9 => h9) rfl dJx35411_next_0502b_11 ?_
  refine va_getN (D := (dC, dI)) (ci := 0) (v := .int 5) (C := RJx4a65c) (T := TJx4a65c) (N := 3) hx hb hts in_Jx4a65c hown hK hP 2 rfl rfl 2 (by decide) (va_Nw.use rfl hT.2.2.2.2.1) (fun _ h9 => h9) rfl dJx35411_next_0502b_14 ?_
  refine lv_icmp_lt (tgt := 28) hx hb dJx35411_next_0502b_17 (by decide) (fun _ => ?_) (fun cz => absurd (by decide) cz)
  refine lv_aload_n hx hb dJx35411_next_0502b_28 rfl (lv_at hl 1 rfl) ?_
  refine va_get (D := (dC, dI)) (ci := 1) (v := .ref h1) (C := RJx35411) (T := TJx35411) (N := 4) hx hb hts in_Jx35411 hown hK hP 1 rfl rfl 3 (by decide) (hts _ q_247) (fun _ h9 => h9) rfl dJx35411_next_0502b_29 ?_
  refine va_get (D := (dC, dI)) (ci := 0) (v := .ref h2) (C := RJx4a65c) (T := TJx4a65c) (N := 3) hx hb hts in_Jx4a65c hown hK hP 2 rfl rfl 1 (by decide) (hts _ q_306) (fun _ h9 => h9) rfl dJx35411_next_0502b_32 ?_
  refine lv_astore_n (lv' := [(2, .ref h2), (1, .int 0), (0, .ref h0)]) hx hb dJx35411_next_0502b_35 rfl hl (by decide) rfl (fun ls hl => ?_)
  refine lv_iload_n hx hb dJx35411_next_0502b_36 rfl (lv_at hl 1 rfl) ?_
  refine lv_aload_n hx hb dJx35411_next_0502b_37 rfl (lv_at hl 0 rfl) ?_
  refine va_alen hx hb hK hP 0 0 rfl rfl (v := 10) rfl dJx35411_next_0502b_38 ?_
  refine lv_icmp_lt (tgt := 50) hx hb dJx35411_next_0502b_39 (by decide) (fun _ => ?_) (fun cz => absurd (by decide) cz)
  refine lv_aload_n hx hb dJx35411_next_0502b_50 rfl (lv_at hl 2 rfl) ?_
  refine lv_iload_n hx hb dJx35411_next_0502b_51 rfl (lv_at hl 1 rfl) ?_
  refine lv_iconst (v := 1) hx hb dJx35411_next_0502b_52 (by decide) ?_
  refine lv_iadd hx hb dJx35411_next_0502b_53 ?_
  refine lv_topi (fun y5 ey5 => ?_)
  obtain rfl : y5 = 1 := ey5.trans (by decide)
  refine va_put (D := (dC, dI)) (ci := 1) (v := .int 1) (ty := .int) (C := RJx35411) (T := TJx35411) (N := 4) hx hb hts in_Jx35411 tyJx35411 tyJx35411_ok nmJx35411 hown hK hP hD (va_Sre hS) 1 rfl rfl 0 (by decide) (hts _ q_259) (fun _ h9 => h9) rfl (by decide +kernel) rfl rfl (Nat.le_of_ble_eq_true rfl) dJx35411_next_0502b_54 (fun H6 _ hP hD hS' => ?_)
  have hG : s.heap.size + 0 ≤ H6.size := Nat.le_trans hG hS'.1
  have hS := va_Str hS hS'
  have hP : va_P (dC, dI) xCl [(h2, .inl (kc0, 10, .inr (.inr (.inr (.inr (va_up (va_up (va_up (va_up (va_up (fun _ => none) 0 (some o0)) 1 (some o1)) 2 (some o2)) 3 (some o3)) 4 (some o4))))))), (h0, .inr (1, [.int 1, .int (-1), .int 5, .ref h1])), (h1, .inr (0, [.int 5, .ref h2, .int 5]))] H6 := hP
  have hD : va_D A [(h2, .inl (kc0, 10, .inr (.inr (.inr (.inr (va_up (va_up (va_up (va_up (va_up (fun _ => none) 0 (some o0)) 1 (some o1)) 2 (some o2)) 3 (some o3)) 4 (some o4))))))), (h0, .inr (1, [.int 1, .int (-1), .int 5, .ref h1])), (h1, .inr (0, [.int 5, .ref h2, .int 5]))] := hD
  refine lv_aload_n hx hb dJx35411_next_0502b_57 rfl (lv_at hl 0 rfl) ?_
  refine lv_aload_n hx hb dJx35411_next_0502b_58 rfl (lv_at hl 2 rfl) ?_
  refine lv_iload_n hx hb dJx35411_next_0502b_59 rfl (lv_at hl 1 rfl) ?_
  refine lv_dup_x1 hx hb dJx35411_next_0502b_60 rfl rfl ?_
  refine va_put (D := (dC, dI)) (ci := 1) (v := .int 0) (ty := .int) (C := RJx35411) (T := TJx35411) (N := 4) hx hb hts in_Jx35411 tyJx35411 tyJx35411_ok nmJx35411 hown hK hP hD (va_Sre hS) 1 rfl rfl 1 (by decide) (hts _ q_249) (fun _ h9 => h9) rfl (by decide +kernel) rfl rfl (Nat.le_of_ble_eq_true rfl) dJx35411_next_0502b_61 (fun H7 _ hP hD hS' => ?_)
  have hG : s.heap.size + 0 ≤ H7.size := Nat.le_trans hG hS'.1
  have hS := va_Str hS hS'
  have hP : va_P (dC, dI) xCl [(h2, .inl (kc0, 10, .inr (.inr (.inr (.inr (va_up (va_up (va_up (va_up (va_up (fun _ => none) 0 (some o0)) 1 (some o1)) 2 (some o2)) 3 (some o3)) 4 (some o4))))))), (h0, .inr (1, [.int 1, .int 0, .int 5, .ref h1])), (h1, .inr (0, [.int 5, .ref h2, .int 5]))] H7 := hP
  have hD : va_D A [(h2, .inl (kc0, 10, .inr (.inr (.inr (.inr (va_up (va_up (va_up (va_up (va_up (fun _ => none) 0 (some o0)) 1 (some o1)) 2 (some o2)) 3 (some o3)) 4 (some o4))))))), (h0, .inr (1, [.int 1, .int 0, .int 5, .ref h1])), (h1, .inr (0, [.int 5, .ref h2, .int 5]))] := hD
  refine va_aldq hx hb hK hP 0 0 rfl rfl (i := 0) (by unfold vp_in; decide) dJx35411_next_0502b_64 ?_
  refine W.eq (g2 := F0 m 65 ls [.ref o0]) rfl ?_
  exact W.aret (v := .ref o0) hx hb hr (by first | exact Or.inl ⟨_, rfl⟩ | exact Or.inr ⟨_, rfl⟩) (Or.inr ⟨_, rfl⟩) (fun t9 ht9 hW9 => ⟨⟨(), o0, rfl, trivial, ⟨rfl, ⟨pq_mk (wc := [(h0, .inr (1, [.int 1, .int 0, .int 5, .ref h1])), (h1, .inr (0, [.int 5, .ref h2, .int 5])), (h2, .inl (kc0, 10, .inr (.inr (.inr (.inr (va_up (va_up (va_up (va_up (va_up (fun _ => none) 0 (some o0)) 1 (some o1)) 2 (some o2)) 3 (some o3)) 4 (some o4)))))))]) (tc := [(kc0, .object "java/lang/Object")]) hP hD hK [1, 2, 0] [0] rfl rfl rfl rfl ht9 hW9, by rw [ht9]; exact Nat.le_trans (Nat.add_le_add_left (Nat.le_of_ble_eq_true rfl) _) hG⟩⟩⟩, hS.F ht9⟩) hS.2.2 dJx35411_next_0502b_65

set_option maxHeartbeats 4000000 in
set_option maxRecDepth 100000 in
theorem k444_hasNext (l : Launch) (hl9 : l.stackTraces = false) (dC : Nat → ClassId) (dI : Nat → Nat → Nat) (z : XZ) (h0 h1 : Nat) (o0 : Nat) (sz : Nat) : Met l yJx35411_hasNext_aae02 (.code yJx35411_hasNext_aae02 cJx35411_hasNext_aae02 1 (some .boolean) :: wsL_law) ({ frames := 0, cells := 0, slots := 0, locals := 0 }) (va_Pc [.ref h0] (PC (dC, dI) [(h0, .inr (1, [.int 1, .int 0, .int 5, .ref h1])), (h1, .inr (0, [.int 5, .ref o0, .int 5]))] [] sz z)) (va_Qi (fun (r : Int32) (_ : Unit) => r = 1) (fun (_ : Unit) (t : State) => PG (dC, dI) [(h0, .inr (1, [.int 1, .int 0, .int 5, .ref h1])), (h1, .inr (0, [.int 5, .ref o0, .int 5]))] [] (va_A [(h0, .inr (1, [.int 1, .int 0, .int 5, .ref h1])), (h1, .inr (0, [.int 5, .ref o0, .int 5]))] sz) sz 0 t) (va_A [(h0, .inr (1, [.int 1, .int 0, .int 5, .ref h1])), (h1, .inr (0, [.int 5, .ref o0, .int 5]))] sz)) 0 0 (va_A [(h0, .inr (1, [.int 1, .int 0, .int 5, .ref h1])), (h1, .inr (0, [.int 5, .ref o0, .int 5]))] sz) := by
  refine Met.ofW (cc := cJx35411_hasNext_aae02) (maxL := 1) (ret := (some .boolean)) (by decide) rfl ?_
  intro p e s m args below meth c s₁ B hml hv
  obtain ⟨rfl, hsz, hP, hK, hD0, hX, hT⟩ := hv
  have hx := B.exec
  have hb := B.bytes
  have hr := B.returns
  have hts0 := atoms_spec (ws := .code yJx35411_hasNext_aae02 cJx35411_hasNext_aae02 1 (some .boolean) :: wsL_law) B.pre
  have hts := xTail hts0
  have hown : s.vm.findClass RJx35411 = some m.cls := findClass_of_methodNamed B.named
  have hlocks := B.notSynchronized
  subst hsz
  have hD := hD0.self (sz := s.heap.size)
  generalize hAe : va_A [(h0, .inr (1, [.int 1, .int 0, .int 5, .ref h1])), (h1, .inr (0, [.int 5, .ref o0, .int 5]))] s.heap.size = A at hD hX ⊢
  have hA : ∀ q : Nat, s.heap.size ≤ q → A q := fun q h => by rw [← hAe]; exact Or.inr h
  have hS : va_S A s.heap s.heap [] := va_S.rf
  have hG : s.heap.size + 0 ≤ s.heap.size := Nat.le_refl _
  have hl := lv_entry ([.ref h0]) (n := 1) (Nat.le_of_ble_eq_true rfl)
  rw [lg_entry_eq]
  generalize (lg_sl ([.ref h0]) ++ List.replicate (1 - (lg_sl ([.ref h0])).length) Slot.unset).toArray = ls at hl ⊢
  have hl : lv_has ls 1 [(0, .ref h0)] := hl
  refine lv_aload_n hx hb dJx35411_hasNext_aae02_0 rfl (lv_at hl 0 rfl) ?_
  refine va_get (D := (dC, dI)) (ci := 1) (v := .int 1) (C := RJx35411) (T := TJx35411) (N := 4) hx hb hts in_Jx35411 hown hK hP 0 rfl rfl 0 (by decide) (hts _ q_259) (fun _ h9 => h9) rfl dJx35411_hasNext_aae02_1 ?_
  refine lv_aload_n hx hb dJx35411_hasNext_aae02_4 rfl (lv_at hl 0 rfl) ?_
  refine va_get (D := (dC, dI)) (ci := 1) (v := .ref h1) (C := RJx35411) (T := TJx35411) (N := 4) hx hb hts in_Jx35411 hown hK hP 0 rfl rfl 3 (by decide) (hts _ q_247) (fun _ h9 => h9) rfl dJx35411_hasNext_aae02_5 ?_
  refine va_getN (D := (dC, dI)) (ci := 0) (v := .int 5) (C := RJx4a65c) (T := TJx4a65c) (N := 3) hx hb hts in_Jx4a65c hown hK hP 1 rfl rfl 2 (by decide) (va_Nw.use rfl hT.2.2.2.2.1) (fun _ h9 => h9) rfl dJx35411_hasNext_aae02_8 ?_
  refine lv_icmp_eq (tgt := 18) hx hb dJx35411_hasNext_aae02_11 (by decide) (fun cz => absurd cz (by decide)) (fun _ => ?_)
  refine lv_iconst (v := 1) hx hb dJx35411_hasNext_aae02_14 (by decide) ?_
  refine lv_goto (tgt := 19) hx hb dJx35411_hasNext_aae02_15 (by decide) ?_
  exact W.zret (v := 1) (ty := .boolean) hx hb hr rfl (fun t9 ht9 hW9 => ⟨⟨1, (), rfl, rfl, ⟨pq_mk (wc := [(h0, .inr (1, [.int 1, .int 0, .int 5, .ref h1])), (h1, .inr (0, [.int 5, .ref o0, .int 5]))]) (tc := []) hP hD hK [0, 1] [] rfl rfl rfl rfl ht9 hW9, by rw [ht9]; exact Nat.le_trans (Nat.add_le_add_left (Nat.le_of_ble_eq_true rfl) _) hG⟩⟩, hS.F ht9⟩) hS.2.2 dJx35411_hasNext_aae02_19

set_option maxHeartbeats 4000000 in
set_option maxRecDepth 100000 in
theorem k445_checkForComodification (l : Launch) (hl9 : l.stackTraces = false) (dC : Nat → ClassId) (dI : Nat → Nat → Nat) (z : XZ) (h0 h1 : Nat) (o0 : Nat) (sz : Nat) : Met l yJx35411_checkForComodification_da8c8 (.code yJx35411_checkForComodification_da8c8 cJx35411_checkForComodification_da8c8 1 none :: wsL_law) ({ frames := 0, cells := 0, slots := 0, locals := 0 }) (va_Pc [.ref h0] (PC (dC, dI) [(h0, .inr (1, [.int 1, .int 0, .int 5, .ref h1])), (h1, .inr (0, [.int 5, .ref o0, .int 5]))] [] sz z)) (va_Qv (fun (_ : Unit) => True) (fun (_ : Unit) (t : State) => PG (dC, dI) [(h0, .inr (1, [.int 1, .int 0, .int 5, .ref h1])), (h1, .inr (0, [.int 5, .ref o0, .int 5]))] [] (va_A [(h0, .inr (1, [.int 1, .int 0, .int 5, .ref h1])), (h1, .inr (0, [.int 5, .ref o0, .int 5]))] sz) sz 0 t) (va_A [(h0, .inr (1, [.int 1, .int 0, .int 5, .ref h1])), (h1, .inr (0, [.int 5, .ref o0, .int 5]))] sz)) 0 0 (va_A [(h0, .inr (1, [.int 1, .int 0, .int 5, .ref h1])), (h1, .inr (0, [.int 5, .ref o0, .int 5]))] sz) := by
  refine Met.ofW (cc := cJx35411_checkForComodification_da8c8) (maxL := 1) (ret := none) (by decide) rfl ?_
  intro p e s m args below meth c s₁ B hml hv
  obtain ⟨rfl, hsz, hP, hK, hD0, hX, hT⟩ := hv
  have hx := B.exec
  have hb := B.bytes
  have hr := B.returns
  have hts0 := atoms_spec (ws := .code yJx35411_checkForComodification_da8c8 cJx35411_checkForComodification_da8c8 1 none :: wsL_law) B.pre
  have hts := xTail hts0
  have hown : s.vm.findClass RJx35411 = some m.cls := findClass_of_methodNamed B.named
  have hlocks := B.notSynchronized
  subst hsz
  have hD := hD0.self (sz := s.heap.size)
  generalize hAe : va_A [(h0, .inr (1, [.int 1, .int 0, .int 5, .ref h1])), (h1, .inr (0, [.int 5, .ref o0, .int 5]))] s.heap.size = A at hD hX ⊢
  have hA : ∀ q : Nat, s.heap.size ≤ q → A q := fun q h => by rw [← hAe]; exact Or.inr h
  have hS : va_S A s.heap s.heap [] := va_S.rf
  have hG : s.heap.size + 0 ≤ s.heap.size := Nat.le_refl _
  have hl := lv_entry ([.ref h0]) (n := 1) (Nat.le_of_ble_eq_true rfl)
  rw [lg_entry_eq]
  generalize (lg_sl ([.ref h0]) ++ List.replicate (1 - (lg_sl ([.ref h0])).length) Slot.unset).toArray = ls at hl ⊢
  have hl : lv_has ls 1 [(0, .ref h0)] := hl
  refine lv_aload_n hx hb dJx35411_checkForComodification_da8c8_0 rfl (lv_at hl 0 rfl) ?_
  refine va_get (D := (dC, dI)) (ci := 1) (v := .ref h1) (C := RJx35411) (T := TJx35411) (N := 4) hx hb hts in_Jx35411 hown hK hP 0 rfl rfl 3 (by decide) (hts _ q_247) (fun _ h9 => h9) rfl dJx35411_checkForComodification_da8c8_1 ?_
  refine va_get (D := (dC, dI)) (ci := 0) (v := .int 5) (C := RJx4a65c) (T := TJx4a65c) (N := 3) hx hb hts in_Jx4a65c hown hK hP 1 rfl rfl 0 (by decide) (hts _ q_250) (u_same (hts _ q_107)) rfl dJx35411_checkForComodification_da8c8_4 ?_
  refine lv_aload_n hx hb dJx35411_checkForComodification_da8c8_7 rfl (lv_at hl 0 rfl) ?_
  refine va_get (D := (dC, dI)) (ci := 1) (v := .int 5) (C := RJx35411) (T := TJx35411) (N := 4) hx hb hts in_Jx35411 hown hK hP 0 rfl rfl 2 (by decide) (hts _ q_251) (fun _ h9 => h9) rfl dJx35411_checkForComodification_da8c8_8 ?_
  refine lv_icmp_eq (tgt := 22) hx hb dJx35411_checkForComodification_da8c8_11 (by decide) (fun _ => ?_) (fun cz => absurd (by decide) cz)
  exact W.vret hx hb hr (fun t9 ht9 hW9 => ⟨⟨(), rfl, trivial, ⟨pq_mk (wc := [(h0, .inr (1, [.int 1, .int 0, .int 5, .ref h1])), (h1, .inr (0, [.int 5, .ref o0, .int 5]))]) (tc := []) hP hD hK [0, 1] [] rfl rfl rfl rfl ht9 hW9, by rw [ht9]; exact Nat.le_trans (Nat.add_le_add_left (Nat.le_of_ble_eq_true rfl) _) hG⟩⟩, hS.F ht9⟩) hS.2.2 dJx35411_checkForComodification_da8c8_22

set_option maxHeartbeats 4000000 in
set_option maxRecDepth 100000 in
theorem k446_next (l : Launch) (hl9 : l.stackTraces = false) (dC : Nat → ClassId) (dI : Nat → Nat → Nat) (z : XZ) (h0 h1 h2 : Nat) (o0 o1 o2 o3 o4 : Nat) (sz : Nat) (kc0 : ClassId) : Met l yJx35411_next_0502b (.code yJx35411_next_0502b cJx35411_next_0502b 3 (some (.object "java/lang/Object")) :: wsL_law) ({ frames := 1, cells := 0, slots := 0, locals := 20 }) (va_Pc [.ref h0] (PC (dC, dI) [(h0, .inr (1, [.int 1, .int 0, .int 5, .ref h1])), (h1, .inr (0, [.int 5, .ref h2, .int 5])), (h2, .inl (kc0, 10, .inr (.inr (.inr (.inr (va_up (va_up (va_up (va_up (va_up (fun _ => none) 0 (some o0)) 1 (some o1)) 2 (some o2)) 3 (some o3)) 4 (some o4)))))))] [(kc0, .object "java/lang/Object")] sz z)) (va_Qr (fun (_ : Unit) => True) (fun (_ : Unit) (ra : Nat) (t : State) => ra = o1 ∧ PG (dC, dI) [(h0, .inr (1, [.int 2, .int 1, .int 5, .ref h1])), (h1, .inr (0, [.int 5, .ref h2, .int 5])), (h2, .inl (kc0, 10, .inr (.inr (.inr (.inr (va_up (va_up (va_up (va_up (va_up (fun _ => none) 0 (some o0)) 1 (some o1)) 2 (some o2)) 3 (some o3)) 4 (some o4)))))))] [(kc0, .object "java/lang/Object")] (va_A [(h0, .inr (1, [.int 1, .int 0, .int 5, .ref h1])), (h1, .inr (0, [.int 5, .ref h2, .int 5])), (h2, .inl (kc0, 10, .inr (.inr (.inr (.inr (va_up (va_up (va_up (va_up (va_up (fun _ => none) 0 (some o0)) 1 (some o1)) 2 (some o2)) 3 (some o3)) 4 (some o4)))))))] sz) sz 0 t) (va_A [(h0, .inr (1, [.int 1, .int 0, .int 5, .ref h1])), (h1, .inr (0, [.int 5, .ref h2, .int 5])), (h2, .inl (kc0, 10, .inr (.inr (.inr (.inr (va_up (va_up (va_up (va_up (va_up (fun _ => none) 0 (some o0)) 1 (some o1)) 2 (some o2)) 3 (some o3)) 4 (some o4)))))))] sz)) 0 0 (va_A [(h0, .inr (1, [.int 1, .int 0, .int 5, .ref h1])), (h1, .inr (0, [.int 5, .ref h2, .int 5])), (h2, .inl (kc0, 10, .inr (.inr (.inr (.inr (va_up (va_up (va_up (va_up (va_up (fun _ => none) 0 (some o0)) 1 (some o1)) 2 (some o2)) 3 (some o3)) 4 (some o4)))))))] sz) := by
  refine Met.ofW (cc := cJx35411_next_0502b) (maxL := 3) (ret := (some (.object "java/lang/Object"))) (by decide) rfl ?_
  intro p e s m args below meth c s₁ B hml hv
  obtain ⟨rfl, hsz, hP, hK, hD0, hX, hT⟩ := hv
  have hx := B.exec
  have hb := B.bytes
  have hr := B.returns
  have hts0 := atoms_spec (ws := .code yJx35411_next_0502b cJx35411_next_0502b 3 (some (.object "java/lang/Object")) :: wsL_law) B.pre
  have hts := xTail hts0
  have hown : s.vm.findClass RJx35411 = some m.cls := findClass_of_methodNamed B.named
  have hlocks := B.notSynchronized
  subst hsz
  have hD := hD0.self (sz := s.heap.size)
  generalize hAe : va_A [(h0, .inr (1, [.int 1, .int 0, .int 5, .ref h1])), (h1, .inr (0, [.int 5, .ref h2, .int 5])), (h2, .inl (kc0, 10, .inr (.inr (.inr (.inr (va_up (va_up (va_up (va_up (va_up (fun _ => none) 0 (some o0)) 1 (some o1)) 2 (some o2)) 3 (some o3)) 4 (some o4)))))))] s.heap.size = A at hD hX ⊢
  have hA : ∀ q : Nat, s.heap.size ≤ q → A q := fun q h => by rw [← hAe]; exact Or.inr h
  have hS : va_S A s.heap s.heap [] := va_S.rf
  have hG : s.heap.size + 0 ≤ s.heap.size := Nat.le_refl _
  have hl := lv_entry ([.ref h0]) (n := 3) (Nat.le_of_ble_eq_true rfl)
  rw [lg_entry_eq]
  generalize (lg_sl ([.ref h0]) ++ List.replicate (3 - (lg_sl ([.ref h0])).length) Slot.unset).toArray = ls at hl ⊢
  have hl : lv_has ls 3 [(0, .ref h0)] := hl
  refine lv_aload_n hx hb dJx35411_next_0502b_0 rfl (lv_at hl 0 rfl) ?_
  have hF1 := va_free (wc := [(h0, .inr (1, [.int 1, .int 0, .int 5, .ref h1])), (h1, .inr (0, [.int 5, .ref h2, .int 5]))]) hD hS hA [0, 1] rfl
  refine va_callv (va_runV (As := []) (rest := []) ⟨hx, hb, hml, hown, hts⟩ (k445_checkForComodification l hl9 dC dI z h0 h1 h2 s.heap.size) (cwV 0 hts (gV q_303 q_304 q_305 q_246 q_302) rfl rfl rfl (by decide +kernel) ⟨Nat.le_of_ble_eq_true rfl, Nat.le_of_ble_eq_true rfl⟩) ⟨pc_blind, va_recv hK hP (ci := 1) (q0 := 0) rfl rfl, fun U hU hW => ⟨rfl, pc_mk hP hD hK hS hX hT [0, 1] [] rfl rfl rfl rfl hF1 hU hW⟩⟩ rfl rfl hl.1 rfl (lv_room (Nat.le_of_ble_eq_true rfl)) dJx35411_next_0502b_1 ⟨(Nat.le_of_ble_eq_true rfl), (Nat.le_of_ble_eq_true rfl)⟩) hS (fun q9 _ h9 => hF1 q9 h9) hF1 (fun u3 t3 H3 L3 ht3 hvm3 hw3 hB3 hz3 hk3 hS => ?_)
  obtain ⟨hP, hD, hK⟩ := pq_join (wr := [(h2, .inl (kc0, 10, .inr (.inr (.inr (.inr (va_up (va_up (va_up (va_up (va_up (fun _ => none) 0 (some o0)) 1 (some o1)) 2 (some o2)) 3 (some o3)) 4 (some o4)))))))]) (tr := [(kc0, .object "java/lang/Object")]) (wz := [(h2, .inl (kc0, 10, .inr (.inr (.inr (.inr (va_up (va_up (va_up (va_up (va_up (fun _ => none) 0 (some o0)) 1 (some o1)) 2 (some o2)) 3 (some o3)) 4 (some o4))))))), (h0, .inr (1, [.int 1, .int 0, .int 5, .ref h1])), (h1, .inr (0, [.int 5, .ref h2, .int 5]))]) (tz := [(kc0, .object "java/lang/Object")]) hP hD hK [0, 1] [2] [0] rfl rfl (by decide) (by decide) rfl hk3 hF1 hB3.1 ht3 hvm3 rfl rfl
  have hG : s.heap.size + 0 ≤ H3.size := Nat.le_trans hG hz3
  refine lv_aload_n hx hb dJx35411_next_0502b_4 rfl (lv_at hl 0 rfl) ?_
  refine va_get (D := (dC, dI)) (ci := 1) (v := .int 1) (C := RJx35411) (T := TJx35411) (N := 4) hx hb hts in_Jx35411 hown hK hP 1 rfl rfl 0 (by decide) (hts _ q_259) (fun _ h9 => h9) rfl dJx35411_next_0502b_5 ?_
  refine lv_istore_n (lv' := [(1, .int 1), (0, .ref h0)]) hx hb dJx35411_next_0502b_8 rfl hl (by decide) rfl (fun ls hl => ?_)
  refine lv_iload_n hx hb dJx35411_next_0502b_9 rfl (lv_at hl 0 rfl) ?_
  refine lv_aload_n hx hb dJx35411_next_0502b_10 rfl (lv_at hl 1 rfl) ?_
  refine va_get (D := (dC, dI)) (ci := 1) (v := .ref h1) (C := RJx35411) (T := TJx35411) (N := 4) hx hb hts in_Jx35411 hown hK hP 1 rfl rfl 3 (by decide) (hts _ q_247) (fun _ h9 => h9) rfl dJx35411_next_0502b_11 ?_
  refine va_getN (D := (dC, dI)) (ci := 0) (v := .int 5) (C := RJx4a65c) (T := TJx4a65c) (N := 3) hx hb hts in_Jx4a65c hown hK hP 2 rfl rfl 2 (by decide) (va_Nw.use rfl hT.2.2.2.2.1) (fun _ h9 => h9) rfl dJx35411_next_0502b_14 ?_
  refine lv_icmp_lt (tgt := 28) hx hb dJx35411_next_0502b_17 (by decide) (fun _ => ?_) (fun cz => absurd (by decide) cz)
  refine lv_aload_n hx hb dJx35411_next_0502b_28 rfl (lv_at hl 1 rfl) ?_
  refine va_get (D := (dC, dI)) (ci := 1) (v := .ref h1) (C := RJx35411) (T := TJx35411) (N := 4) hx hb hts in_Jx35411 hown hK hP 1 rfl rfl 3 (by decide) (hts _ q_247) (fun _ h9 => h9) rfl dJx35411_next_0502b_29 ?_
  refine va_get (D := (dC, dI)) (ci := 0) (v := .ref h2) (C := RJx4a65c) (T := TJx4a65c) (N := 3) hx hb hts in_Jx4a65c hown hK hP 2 rfl rfl 1 (by decide) (hts _ q_306) (fun _ h9 => h9) rfl dJx35411_next_0502b_32 ?_
  refine lv_astore_n (lv' := [(2, .ref h2), (1, .int 1), (0, .ref h0)]) hx hb dJx35411_next_0502b_35 rfl hl (by decide) rfl (fun ls hl => ?_)
  refine lv_iload_n hx hb dJx35411_next_0502b_36 rfl (lv_at hl 1 rfl) ?_
  refine lv_aload_n hx hb dJx35411_next_0502b_37 rfl (lv_at hl 0 rfl) ?_
  refine va_alen hx hb hK hP 0 0 rfl rfl (v := 10) rfl dJx35411_next_0502b_38 ?_
  refine lv_icmp_lt (tgt := 50) hx hb dJx35411_next_0502b_39 (by decide) (fun _ => ?_) (fun cz => absurd (by decide) cz)
  refine lv_aload_n hx hb dJx35411_next_0502b_50 rfl (lv_at hl 2 rfl) ?_
  refine lv_iload_n hx hb dJx35411_next_0502b_51 rfl (lv_at hl 1 rfl) ?_
  refine lv_iconst (v := 1) hx hb dJx35411_next_0502b_52 (by decide) ?_
  refine lv_iadd hx hb dJx35411_next_0502b_53 ?_
  refine lv_topi (fun y5 ey5 => ?_)
  obtain rfl : y5 = 2 := ey5.trans (by decide)
  refine va_put (D := (dC, dI)) (ci := 1) (v := .int 2) (ty := .int) (C := RJx35411) (T := TJx35411) (N := 4) hx hb hts in_Jx35411 tyJx35411 tyJx35411_ok nmJx35411 hown hK hP hD (va_Sre hS) 1 rfl rfl 0 (by decide) (hts _ q_259) (fun _ h9 => h9) rfl (by decide +kernel) rfl rfl (Nat.le_of_ble_eq_true rfl) dJx35411_next_0502b_54 (fun H6 _ hP hD hS' => ?_)
  have hG : s.heap.size + 0 ≤ H6.size := Nat.le_trans hG hS'.1
  have hS := va_Str hS hS'
  have hP : va_P (dC, dI) xCl [(h2, .inl (kc0, 10, .inr (.inr (.inr (.inr (va_up (va_up (va_up (va_up (va_up (fun _ => none) 0 (some o0)) 1 (some o1)) 2 (some o2)) 3 (some o3)) 4 (some o4))))))), (h0, .inr (1, [.int 2, .int 0, .int 5, .ref h1])), (h1, .inr (0, [.int 5, .ref h2, .int 5]))] H6 := hP
  have hD : va_D A [(h2, .inl (kc0, 10, .inr (.inr (.inr (.inr (va_up (va_up (va_up (va_up (va_up (fun _ => none) 0 (some o0)) 1 (some o1)) 2 (some o2)) 3 (some o3)) 4 (some o4))))))), (h0, .inr (1, [.int 2, .int 0, .int 5, .ref h1])), (h1, .inr (0, [.int 5, .ref h2, .int 5]))] := hD
  refine lv_aload_n hx hb dJx35411_next_0502b_57 rfl (lv_at hl 0 rfl) ?_
  refine lv_aload_n hx hb dJx35411_next_0502b_58 rfl (lv_at hl 2 rfl) ?_
  refine lv_iload_n hx hb dJx35411_next_0502b_59 rfl (lv_at hl 1 rfl) ?_
  refine lv_dup_x1 hx hb dJx35411_next_0502b_60 rfl rfl ?_
  refine va_put (D := (dC, dI)) (ci := 1) (v := .int 1) (ty := .int) (C := RJx35411) (T := TJx35411) (N := 4) hx hb hts in_Jx35411 tyJx35411 tyJx35411_ok nmJx35411 hown hK hP hD (va_Sre hS) 1 rfl rfl 1 (by decide) (hts _ q_249) (fun _ h9 => h9) rfl (by decide +kernel) rfl rfl (Nat.le_of_ble_eq_true rfl) dJx35411_next_0502b_61 (fun H7 _ hP hD hS' => ?_)
  have hG : s.heap.size + 0 ≤ H7.size := Nat.le_trans hG hS'.1
  have hS := va_Str hS hS'
  have hP : va_P (dC, dI) xCl [(h2, .inl (kc0, 10, .inr (.inr (.inr (.inr (va_up (va_up (va_up (va_up (va_up (fun _ => none) 0 (some o0)) 1 (some o1)) 2 (some o2)) 3 (some o3)) 4 (some o4))))))), (h0, .inr (1, [.int 2, .int 1, .int 5, .ref h1])), (h1, .inr (0, [.int 5, .ref h2, .int 5]))] H7 := hP
  have hD : va_D A [(h2, .inl (kc0, 10, .inr (.inr (.inr (.inr (va_up (va_up (va_up (va_up (va_up (fun _ => none) 0 (some o0)) 1 (some o1)) 2 (some o2)) 3 (some o3)) 4 (some o4))))))), (h0, .inr (1, [.int 2, .int 1, .int 5, .ref h1])), (h1, .inr (0, [.int 5, .ref h2, .int 5]))] := hD
  refine va_aldq hx hb hK hP 0 0 rfl rfl (i := 1) (by unfold vp_in; decide) dJx35411_next_0502b_64 ?_
  refine W.eq (g2 := F0 m 65 ls [.ref o1]) rfl ?_
  exact W.aret (v := .ref o1) hx hb hr (by first | exact Or.inl ⟨_, rfl⟩ | exact Or.inr ⟨_, rfl⟩) (Or.inr ⟨_, rfl⟩) (fun t9 ht9 hW9 => ⟨⟨(), o1, rfl, trivial, ⟨rfl, ⟨pq_mk (wc := [(h0, .inr (1, [.int 2, .int 1, .int 5, .ref h1])), (h1, .inr (0, [.int 5, .ref h2, .int 5])), (h2, .inl (kc0, 10, .inr (.inr (.inr (.inr (va_up (va_up (va_up (va_up (va_up (fun _ => none) 0 (some o0)) 1 (some o1)) 2 (some o2)) 3 (some o3)) 4 (some o4)))))))]) (tc := [(kc0, .object "java/lang/Object")]) hP hD hK [1, 2, 0] [0] rfl rfl rfl rfl ht9 hW9, by rw [ht9]; exact Nat.le_trans (Nat.add_le_add_left (Nat.le_of_ble_eq_true rfl) _) hG⟩⟩⟩, hS.F ht9⟩) hS.2.2 dJx35411_next_0502b_65

set_option maxHeartbeats 4000000 in
set_option maxRecDepth 100000 in
theorem k447_hasNext (l : Launch) (hl9 : l.stackTraces = false) (dC : Nat → ClassId) (dI : Nat → Nat → Nat) (z : XZ) (h0 h1 : Nat) (o0 : Nat) (sz : Nat) : Met l yJx35411_hasNext_aae02 (.code yJx35411_hasNext_aae02 cJx35411_hasNext_aae02 1 (some .boolean) :: wsL_law) ({ frames := 0, cells := 0, slots := 0, locals := 0 }) (va_Pc [.ref h0] (PC (dC, dI) [(h0, .inr (1, [.int 2, .int 1, .int 5, .ref h1])), (h1, .inr (0, [.int 5, .ref o0, .int 5]))] [] sz z)) (va_Qi (fun (r : Int32) (_ : Unit) => r = 1) (fun (_ : Unit) (t : State) => PG (dC, dI) [(h0, .inr (1, [.int 2, .int 1, .int 5, .ref h1])), (h1, .inr (0, [.int 5, .ref o0, .int 5]))] [] (va_A [(h0, .inr (1, [.int 2, .int 1, .int 5, .ref h1])), (h1, .inr (0, [.int 5, .ref o0, .int 5]))] sz) sz 0 t) (va_A [(h0, .inr (1, [.int 2, .int 1, .int 5, .ref h1])), (h1, .inr (0, [.int 5, .ref o0, .int 5]))] sz)) 0 0 (va_A [(h0, .inr (1, [.int 2, .int 1, .int 5, .ref h1])), (h1, .inr (0, [.int 5, .ref o0, .int 5]))] sz) := by
  refine Met.ofW (cc := cJx35411_hasNext_aae02) (maxL := 1) (ret := (some .boolean)) (by decide) rfl ?_
  intro p e s m args below meth c s₁ B hml hv
  obtain ⟨rfl, hsz, hP, hK, hD0, hX, hT⟩ := hv
  have hx := B.exec
  have hb := B.bytes
  have hr := B.returns
  have hts0 := atoms_spec (ws := .code yJx35411_hasNext_aae02 cJx35411_hasNext_aae02 1 (some .boolean) :: wsL_law) B.pre
  have hts := xTail hts0
  have hown : s.vm.findClass RJx35411 = some m.cls := findClass_of_methodNamed B.named
  have hlocks := B.notSynchronized
  subst hsz
  have hD := hD0.self (sz := s.heap.size)
  generalize hAe : va_A [(h0, .inr (1, [.int 2, .int 1, .int 5, .ref h1])), (h1, .inr (0, [.int 5, .ref o0, .int 5]))] s.heap.size = A at hD hX ⊢
  have hA : ∀ q : Nat, s.heap.size ≤ q → A q := fun q h => by rw [← hAe]; exact Or.inr h
  have hS : va_S A s.heap s.heap [] := va_S.rf
  have hG : s.heap.size + 0 ≤ s.heap.size := Nat.le_refl _
  have hl := lv_entry ([.ref h0]) (n := 1) (Nat.le_of_ble_eq_true rfl)
  rw [lg_entry_eq]
  generalize (lg_sl ([.ref h0]) ++ List.replicate (1 - (lg_sl ([.ref h0])).length) Slot.unset).toArray = ls at hl ⊢
  have hl : lv_has ls 1 [(0, .ref h0)] := hl
  refine lv_aload_n hx hb dJx35411_hasNext_aae02_0 rfl (lv_at hl 0 rfl) ?_
  refine va_get (D := (dC, dI)) (ci := 1) (v := .int 2) (C := RJx35411) (T := TJx35411) (N := 4) hx hb hts in_Jx35411 hown hK hP 0 rfl rfl 0 (by decide) (hts _ q_259) (fun _ h9 => h9) rfl dJx35411_hasNext_aae02_1 ?_
  refine lv_aload_n hx hb dJx35411_hasNext_aae02_4 rfl (lv_at hl 0 rfl) ?_
  refine va_get (D := (dC, dI)) (ci := 1) (v := .ref h1) (C := RJx35411) (T := TJx35411) (N := 4) hx hb hts in_Jx35411 hown hK hP 0 rfl rfl 3 (by decide) (hts _ q_247) (fun _ h9 => h9) rfl dJx35411_hasNext_aae02_5 ?_
  refine va_getN (D := (dC, dI)) (ci := 0) (v := .int 5) (C := RJx4a65c) (T := TJx4a65c) (N := 3) hx hb hts in_Jx4a65c hown hK hP 1 rfl rfl 2 (by decide) (va_Nw.use rfl hT.2.2.2.2.1) (fun _ h9 => h9) rfl dJx35411_hasNext_aae02_8 ?_
  refine lv_icmp_eq (tgt := 18) hx hb dJx35411_hasNext_aae02_11 (by decide) (fun cz => absurd cz (by decide)) (fun _ => ?_)
  refine lv_iconst (v := 1) hx hb dJx35411_hasNext_aae02_14 (by decide) ?_
  refine lv_goto (tgt := 19) hx hb dJx35411_hasNext_aae02_15 (by decide) ?_
  exact W.zret (v := 1) (ty := .boolean) hx hb hr rfl (fun t9 ht9 hW9 => ⟨⟨1, (), rfl, rfl, ⟨pq_mk (wc := [(h0, .inr (1, [.int 2, .int 1, .int 5, .ref h1])), (h1, .inr (0, [.int 5, .ref o0, .int 5]))]) (tc := []) hP hD hK [0, 1] [] rfl rfl rfl rfl ht9 hW9, by rw [ht9]; exact Nat.le_trans (Nat.add_le_add_left (Nat.le_of_ble_eq_true rfl) _) hG⟩⟩, hS.F ht9⟩) hS.2.2 dJx35411_hasNext_aae02_19

set_option maxHeartbeats 4000000 in
set_option maxRecDepth 100000 in
theorem k448_checkForComodification (l : Launch) (hl9 : l.stackTraces = false) (dC : Nat → ClassId) (dI : Nat → Nat → Nat) (z : XZ) (h0 h1 : Nat) (o0 : Nat) (sz : Nat) : Met l yJx35411_checkForComodification_da8c8 (.code yJx35411_checkForComodification_da8c8 cJx35411_checkForComodification_da8c8 1 none :: wsL_law) ({ frames := 0, cells := 0, slots := 0, locals := 0 }) (va_Pc [.ref h0] (PC (dC, dI) [(h0, .inr (1, [.int 2, .int 1, .int 5, .ref h1])), (h1, .inr (0, [.int 5, .ref o0, .int 5]))] [] sz z)) (va_Qv (fun (_ : Unit) => True) (fun (_ : Unit) (t : State) => PG (dC, dI) [(h0, .inr (1, [.int 2, .int 1, .int 5, .ref h1])), (h1, .inr (0, [.int 5, .ref o0, .int 5]))] [] (va_A [(h0, .inr (1, [.int 2, .int 1, .int 5, .ref h1])), (h1, .inr (0, [.int 5, .ref o0, .int 5]))] sz) sz 0 t) (va_A [(h0, .inr (1, [.int 2, .int 1, .int 5, .ref h1])), (h1, .inr (0, [.int 5, .ref o0, .int 5]))] sz)) 0 0 (va_A [(h0, .inr (1, [.int 2, .int 1, .int 5, .ref h1])), (h1, .inr (0, [.int 5, .ref o0, .int 5]))] sz) := by
  refine Met.ofW (cc := cJx35411_checkForComodification_da8c8) (maxL := 1) (ret := none) (by decide) rfl ?_
  intro p e s m args below meth c s₁ B hml hv
  obtain ⟨rfl, hsz, hP, hK, hD0, hX, hT⟩ := hv
  have hx := B.exec
  have hb := B.bytes
  have hr := B.returns
  have hts0 := atoms_spec (ws := .code yJx35411_checkForComodification_da8c8 cJx35411_checkForComodification_da8c8 1 none :: wsL_law) B.pre
  have hts := xTail hts0
  have hown : s.vm.findClass RJx35411 = some m.cls := findClass_of_methodNamed B.named
  have hlocks := B.notSynchronized
  subst hsz
  have hD := hD0.self (sz := s.heap.size)
  generalize hAe : va_A [(h0, .inr (1, [.int 2, .int 1, .int 5, .ref h1])), (h1, .inr (0, [.int 5, .ref o0, .int 5]))] s.heap.size = A at hD hX ⊢
  have hA : ∀ q : Nat, s.heap.size ≤ q → A q := fun q h => by rw [← hAe]; exact Or.inr h
  have hS : va_S A s.heap s.heap [] := va_S.rf
  have hG : s.heap.size + 0 ≤ s.heap.size := Nat.le_refl _
  have hl := lv_entry ([.ref h0]) (n := 1) (Nat.le_of_ble_eq_true rfl)
  rw [lg_entry_eq]
  generalize (lg_sl ([.ref h0]) ++ List.replicate (1 - (lg_sl ([.ref h0])).length) Slot.unset).toArray = ls at hl ⊢
  have hl : lv_has ls 1 [(0, .ref h0)] := hl
  refine lv_aload_n hx hb dJx35411_checkForComodification_da8c8_0 rfl (lv_at hl 0 rfl) ?_
  refine va_get (D := (dC, dI)) (ci := 1) (v := .ref h1) (C := RJx35411) (T := TJx35411) (N := 4) hx hb hts in_Jx35411 hown hK hP 0 rfl rfl 3 (by decide) (hts _ q_247) (fun _ h9 => h9) rfl dJx35411_checkForComodification_da8c8_1 ?_
  refine va_get (D := (dC, dI)) (ci := 0) (v := .int 5) (C := RJx4a65c) (T := TJx4a65c) (N := 3) hx hb hts in_Jx4a65c hown hK hP 1 rfl rfl 0 (by decide) (hts _ q_250) (u_same (hts _ q_107)) rfl dJx35411_checkForComodification_da8c8_4 ?_
  refine lv_aload_n hx hb dJx35411_checkForComodification_da8c8_7 rfl (lv_at hl 0 rfl) ?_
  refine va_get (D := (dC, dI)) (ci := 1) (v := .int 5) (C := RJx35411) (T := TJx35411) (N := 4) hx hb hts in_Jx35411 hown hK hP 0 rfl rfl 2 (by decide) (hts _ q_251) (fun _ h9 => h9) rfl dJx35411_checkForComodification_da8c8_8 ?_
  refine lv_icmp_eq (tgt := 22) hx hb dJx35411_checkForComodification_da8c8_11 (by decide) (fun _ => ?_) (fun cz => absurd (by decide) cz)
  exact W.vret hx hb hr (fun t9 ht9 hW9 => ⟨⟨(), rfl, trivial, ⟨pq_mk (wc := [(h0, .inr (1, [.int 2, .int 1, .int 5, .ref h1])), (h1, .inr (0, [.int 5, .ref o0, .int 5]))]) (tc := []) hP hD hK [0, 1] [] rfl rfl rfl rfl ht9 hW9, by rw [ht9]; exact Nat.le_trans (Nat.add_le_add_left (Nat.le_of_ble_eq_true rfl) _) hG⟩⟩, hS.F ht9⟩) hS.2.2 dJx35411_checkForComodification_da8c8_22

set_option maxHeartbeats 4000000 in
set_option maxRecDepth 100000 in
theorem k449_next (l : Launch) (hl9 : l.stackTraces = false) (dC : Nat → ClassId) (dI : Nat → Nat → Nat) (z : XZ) (h0 h1 h2 : Nat) (o0 o1 o2 o3 o4 : Nat) (sz : Nat) (kc0 : ClassId) : Met l yJx35411_next_0502b (.code yJx35411_next_0502b cJx35411_next_0502b 3 (some (.object "java/lang/Object")) :: wsL_law) ({ frames := 1, cells := 0, slots := 0, locals := 20 }) (va_Pc [.ref h0] (PC (dC, dI) [(h0, .inr (1, [.int 2, .int 1, .int 5, .ref h1])), (h1, .inr (0, [.int 5, .ref h2, .int 5])), (h2, .inl (kc0, 10, .inr (.inr (.inr (.inr (va_up (va_up (va_up (va_up (va_up (fun _ => none) 0 (some o0)) 1 (some o1)) 2 (some o2)) 3 (some o3)) 4 (some o4)))))))] [(kc0, .object "java/lang/Object")] sz z)) (va_Qr (fun (_ : Unit) => True) (fun (_ : Unit) (ra : Nat) (t : State) => ra = o2 ∧ PG (dC, dI) [(h0, .inr (1, [.int 3, .int 2, .int 5, .ref h1])), (h1, .inr (0, [.int 5, .ref h2, .int 5])), (h2, .inl (kc0, 10, .inr (.inr (.inr (.inr (va_up (va_up (va_up (va_up (va_up (fun _ => none) 0 (some o0)) 1 (some o1)) 2 (some o2)) 3 (some o3)) 4 (some o4)))))))] [(kc0, .object "java/lang/Object")] (va_A [(h0, .inr (1, [.int 2, .int 1, .int 5, .ref h1])), (h1, .inr (0, [.int 5, .ref h2, .int 5])), (h2, .inl (kc0, 10, .inr (.inr (.inr (.inr (va_up (va_up (va_up (va_up (va_up (fun _ => none) 0 (some o0)) 1 (some o1)) 2 (some o2)) 3 (some o3)) 4 (some o4)))))))] sz) sz 0 t) (va_A [(h0, .inr (1, [.int 2, .int 1, .int 5, .ref h1])), (h1, .inr (0, [.int 5, .ref h2, .int 5])), (h2, .inl (kc0, 10, .inr (.inr (.inr (.inr (va_up (va_up (va_up (va_up (va_up (fun _ => none) 0 (some o0)) 1 (some o1)) 2 (some o2)) 3 (some o3)) 4 (some o4)))))))] sz)) 0 0 (va_A [(h0, .inr (1, [.int 2, .int 1, .int 5, .ref h1])), (h1, .inr (0, [.int 5, .ref h2, .int 5])), (h2, .inl (kc0, 10, .inr (.inr (.inr (.inr (va_up (va_up (va_up (va_up (va_up (fun _ => none) 0 (some o0)) 1 (some o1)) 2 (some o2)) 3 (some o3)) 4 (some o4)))))))] sz) := by
  refine Met.ofW (cc := cJx35411_next_0502b) (maxL := 3) (ret := (some (.object "java/lang/Object"))) (by decide) rfl ?_
  intro p e s m args below meth c s₁ B hml hv
  obtain ⟨rfl, hsz, hP, hK, hD0, hX, hT⟩ := hv
  have hx := B.exec
  have hb := B.bytes
  have hr := B.returns
  have hts0 := atoms_spec (ws := .code yJx35411_next_0502b cJx35411_next_0502b 3 (some (.object "java/lang/Object")) :: wsL_law) B.pre
  have hts := xTail hts0
  have hown : s.vm.findClass RJx35411 = some m.cls := findClass_of_methodNamed B.named
  have hlocks := B.notSynchronized
  subst hsz
  have hD := hD0.self (sz := s.heap.size)
  generalize hAe : va_A [(h0, .inr (1, [.int 2, .int 1, .int 5, .ref h1])), (h1, .inr (0, [.int 5, .ref h2, .int 5])), (h2, .inl (kc0, 10, .inr (.inr (.inr (.inr (va_up (va_up (va_up (va_up (va_up (fun _ => none) 0 (some o0)) 1 (some o1)) 2 (some o2)) 3 (some o3)) 4 (some o4)))))))] s.heap.size = A at hD hX ⊢
  have hA : ∀ q : Nat, s.heap.size ≤ q → A q := fun q h => by rw [← hAe]; exact Or.inr h
  have hS : va_S A s.heap s.heap [] := va_S.rf
  have hG : s.heap.size + 0 ≤ s.heap.size := Nat.le_refl _
  have hl := lv_entry ([.ref h0]) (n := 3) (Nat.le_of_ble_eq_true rfl)
  rw [lg_entry_eq]
  generalize (lg_sl ([.ref h0]) ++ List.replicate (3 - (lg_sl ([.ref h0])).length) Slot.unset).toArray = ls at hl ⊢
  have hl : lv_has ls 3 [(0, .ref h0)] := hl
  refine lv_aload_n hx hb dJx35411_next_0502b_0 rfl (lv_at hl 0 rfl) ?_
  have hF1 := va_free (wc := [(h0, .inr (1, [.int 2, .int 1, .int 5, .ref h1])), (h1, .inr (0, [.int 5, .ref h2, .int 5]))]) hD hS hA [0, 1] rfl
  refine va_callv (va_runV (As := []) (rest := []) ⟨hx, hb, hml, hown, hts⟩ (k448_checkForComodification l hl9 dC dI z h0 h1 h2 s.heap.size) (cwV 0 hts (gV q_303 q_304 q_305 q_246 q_302) rfl rfl rfl (by decide +kernel) ⟨Nat.le_of_ble_eq_true rfl, Nat.le_of_ble_eq_true rfl⟩) ⟨pc_blind, va_recv hK hP (ci := 1) (q0 := 0) rfl rfl, fun U hU hW => ⟨rfl, pc_mk hP hD hK hS hX hT [0, 1] [] rfl rfl rfl rfl hF1 hU hW⟩⟩ rfl rfl hl.1 rfl (lv_room (Nat.le_of_ble_eq_true rfl)) dJx35411_next_0502b_1 ⟨(Nat.le_of_ble_eq_true rfl), (Nat.le_of_ble_eq_true rfl)⟩) hS (fun q9 _ h9 => hF1 q9 h9) hF1 (fun u3 t3 H3 L3 ht3 hvm3 hw3 hB3 hz3 hk3 hS => ?_)
  obtain ⟨hP, hD, hK⟩ := pq_join (wr := [(h2, .inl (kc0, 10, .inr (.inr (.inr (.inr (va_up (va_up (va_up (va_up (va_up (fun _ => none) 0 (some o0)) 1 (some o1)) 2 (some o2)) 3 (some o3)) 4 (some o4)))))))]) (tr := [(kc0, .object "java/lang/Object")]) (wz := [(h2, .inl (kc0, 10, .inr (.inr (.inr (.inr (va_up (va_up (va_up (va_up (va_up (fun _ => none) 0 (some o0)) 1 (some o1)) 2 (some o2)) 3 (some o3)) 4 (some o4))))))), (h0, .inr (1, [.int 2, .int 1, .int 5, .ref h1])), (h1, .inr (0, [.int 5, .ref h2, .int 5]))]) (tz := [(kc0, .object "java/lang/Object")]) hP hD hK [0, 1] [2] [0] rfl rfl (by decide) (by decide) rfl hk3 hF1 hB3.1 ht3 hvm3 rfl rfl
  have hG : s.heap.size + 0 ≤ H3.size := Nat.le_trans hG hz3
  refine lv_aload_n hx hb dJx35411_next_0502b_4 rfl (lv_at hl 0 rfl) ?_
  refine va_get (D := (dC, dI)) (ci := 1) (v := .int 2) (C := RJx35411) (T := TJx35411) (N := 4) hx hb hts in_Jx35411 hown hK hP 1 rfl rfl 0 (by decide) (hts _ q_259) (fun _ h9 => h9) rfl dJx35411_next_0502b_5 ?_
  refine lv_istore_n (lv' := [(1, .int 2), (0, .ref h0)]) hx hb dJx35411_next_0502b_8 rfl hl (by decide) rfl (fun ls hl => ?_)
  refine lv_iload_n hx hb dJx35411_next_0502b_9 rfl (lv_at hl 0 rfl) ?_
  refine lv_aload_n hx hb dJx35411_next_0502b_10 rfl (lv_at hl 1 rfl) ?_
  refine va_get (D := (dC, dI)) (ci := 1) (v := .ref h1) (C := RJx35411) (T := TJx35411) (N := 4) hx hb hts in_Jx35411 hown hK hP 1 rfl rfl 3 (by decide) (hts _ q_247) (fun _ h9 => h9) rfl dJx35411_next_0502b_11 ?_
  refine va_getN (D := (dC, dI)) (ci := 0) (v := .int 5) (C := RJx4a65c) (T := TJx4a65c) (N := 3) hx hb hts in_Jx4a65c hown hK hP 2 rfl rfl 2 (by decide) (va_Nw.use rfl hT.2.2.2.2.1) (fun _ h9 => h9) rfl dJx35411_next_0502b_14 ?_
  refine lv_icmp_lt (tgt := 28) hx hb dJx35411_next_0502b_17 (by decide) (fun _ => ?_) (fun cz => absurd (by decide) cz)
  refine lv_aload_n hx hb dJx35411_next_0502b_28 rfl (lv_at hl 1 rfl) ?_
  refine va_get (D := (dC, dI)) (ci := 1) (v := .ref h1) (C := RJx35411) (T := TJx35411) (N := 4) hx hb hts in_Jx35411 hown hK hP 1 rfl rfl 3 (by decide) (hts _ q_247) (fun _ h9 => h9) rfl dJx35411_next_0502b_29 ?_
  refine va_get (D := (dC, dI)) (ci := 0) (v := .ref h2) (C := RJx4a65c) (T := TJx4a65c) (N := 3) hx hb hts in_Jx4a65c hown hK hP 2 rfl rfl 1 (by decide) (hts _ q_306) (fun _ h9 => h9) rfl dJx35411_next_0502b_32 ?_
  refine lv_astore_n (lv' := [(2, .ref h2), (1, .int 2), (0, .ref h0)]) hx hb dJx35411_next_0502b_35 rfl hl (by decide) rfl (fun ls hl => ?_)
  refine lv_iload_n hx hb dJx35411_next_0502b_36 rfl (lv_at hl 1 rfl) ?_
  refine lv_aload_n hx hb dJx35411_next_0502b_37 rfl (lv_at hl 0 rfl) ?_
  refine va_alen hx hb hK hP 0 0 rfl rfl (v := 10) rfl dJx35411_next_0502b_38 ?_
  refine lv_icmp_lt (tgt := 50) hx hb dJx35411_next_0502b_39 (by decide) (fun _ => ?_) (fun cz => absurd (by decide) cz)
  refine lv_aload_n hx hb dJx35411_next_0502b_50 rfl (lv_at hl 2 rfl) ?_
  refine lv_iload_n hx hb dJx35411_next_0502b_51 rfl (lv_at hl 1 rfl) ?_
  refine lv_iconst (v := 1) hx hb dJx35411_next_0502b_52 (by decide) ?_
  refine lv_iadd hx hb dJx35411_next_0502b_53 ?_
  refine lv_topi (fun y5 ey5 => ?_)
  obtain rfl : y5 = 3 := ey5.trans (by decide)
  refine va_put (D := (dC, dI)) (ci := 1) (v := .int 3) (ty := .int) (C := RJx35411) (T := TJx35411) (N := 4) hx hb hts in_Jx35411 tyJx35411 tyJx35411_ok nmJx35411 hown hK hP hD (va_Sre hS) 1 rfl rfl 0 (by decide) (hts _ q_259) (fun _ h9 => h9) rfl (by decide +kernel) rfl rfl (Nat.le_of_ble_eq_true rfl) dJx35411_next_0502b_54 (fun H6 _ hP hD hS' => ?_)
  have hG : s.heap.size + 0 ≤ H6.size := Nat.le_trans hG hS'.1
  have hS := va_Str hS hS'
  have hP : va_P (dC, dI) xCl [(h2, .inl (kc0, 10, .inr (.inr (.inr (.inr (va_up (va_up (va_up (va_up (va_up (fun _ => none) 0 (some o0)) 1 (some o1)) 2 (some o2)) 3 (some o3)) 4 (some o4))))))), (h0, .inr (1, [.int 3, .int 1, .int 5, .ref h1])), (h1, .inr (0, [.int 5, .ref h2, .int 5]))] H6 := hP
  have hD : va_D A [(h2, .inl (kc0, 10, .inr (.inr (.inr (.inr (va_up (va_up (va_up (va_up (va_up (fun _ => none) 0 (some o0)) 1 (some o1)) 2 (some o2)) 3 (some o3)) 4 (some o4))))))), (h0, .inr (1, [.int 3, .int 1, .int 5, .ref h1])), (h1, .inr (0, [.int 5, .ref h2, .int 5]))] := hD
  refine lv_aload_n hx hb dJx35411_next_0502b_57 rfl (lv_at hl 0 rfl) ?_
  refine lv_aload_n hx hb dJx35411_next_0502b_58 rfl (lv_at hl 2 rfl) ?_
  refine lv_iload_n hx hb dJx35411_next_0502b_59 rfl (lv_at hl 1 rfl) ?_
  refine lv_dup_x1 hx hb dJx35411_next_0502b_60 rfl rfl ?_
  refine va_put (D := (dC, dI)) (ci := 1) (v := .int 2) (ty := .int) (C := RJx35411) (T := TJx35411) (N := 4) hx hb hts in_Jx35411 tyJx35411 tyJx35411_ok nmJx35411 hown hK hP hD (va_Sre hS) 1 rfl rfl 1 (by decide) (hts _ q_249) (fun _ h9 => h9) rfl (by decide +kernel) rfl rfl (Nat.le_of_ble_eq_true rfl) dJx35411_next_0502b_61 (fun H7 _ hP hD hS' => ?_)
  have hG : s.heap.size + 0 ≤ H7.size := Nat.le_trans hG hS'.1
  have hS := va_Str hS hS'
  have hP : va_P (dC, dI) xCl [(h2, .inl (kc0, 10, .inr (.inr (.inr (.inr (va_up (va_up (va_up (va_up (va_up (fun _ => none) 0 (some o0)) 1 (some o1)) 2 (some o2)) 3 (some o3)) 4 (some o4))))))), (h0, .inr (1, [.int 3, .int 2, .int 5, .ref h1])), (h1, .inr (0, [.int 5, .ref h2, .int 5]))] H7 := hP
  have hD : va_D A [(h2, .inl (kc0, 10, .inr (.inr (.inr (.inr (va_up (va_up (va_up (va_up (va_up (fun _ => none) 0 (some o0)) 1 (some o1)) 2 (some o2)) 3 (some o3)) 4 (some o4))))))), (h0, .inr (1, [.int 3, .int 2, .int 5, .ref h1])), (h1, .inr (0, [.int 5, .ref h2, .int 5]))] := hD
  refine va_aldq hx hb hK hP 0 0 rfl rfl (i := 2) (by unfold vp_in; decide) dJx35411_next_0502b_64 ?_
  refine W.eq (g2 := F0 m 65 ls [.ref o2]) rfl ?_
  exact W.aret (v := .ref o2) hx hb hr (by first | exact Or.inl ⟨_, rfl⟩ | exact Or.inr ⟨_, rfl⟩) (Or.inr ⟨_, rfl⟩) (fun t9 ht9 hW9 => ⟨⟨(), o2, rfl, trivial, ⟨rfl, ⟨pq_mk (wc := [(h0, .inr (1, [.int 3, .int 2, .int 5, .ref h1])), (h1, .inr (0, [.int 5, .ref h2, .int 5])), (h2, .inl (kc0, 10, .inr (.inr (.inr (.inr (va_up (va_up (va_up (va_up (va_up (fun _ => none) 0 (some o0)) 1 (some o1)) 2 (some o2)) 3 (some o3)) 4 (some o4)))))))]) (tc := [(kc0, .object "java/lang/Object")]) hP hD hK [1, 2, 0] [0] rfl rfl rfl rfl ht9 hW9, by rw [ht9]; exact Nat.le_trans (Nat.add_le_add_left (Nat.le_of_ble_eq_true rfl) _) hG⟩⟩⟩, hS.F ht9⟩) hS.2.2 dJx35411_next_0502b_65

set_option maxHeartbeats 4000000 in
set_option maxRecDepth 100000 in
theorem k450_hasNext (l : Launch) (hl9 : l.stackTraces = false) (dC : Nat → ClassId) (dI : Nat → Nat → Nat) (z : XZ) (h0 h1 : Nat) (o0 : Nat) (sz : Nat) : Met l yJx35411_hasNext_aae02 (.code yJx35411_hasNext_aae02 cJx35411_hasNext_aae02 1 (some .boolean) :: wsL_law) ({ frames := 0, cells := 0, slots := 0, locals := 0 }) (va_Pc [.ref h0] (PC (dC, dI) [(h0, .inr (1, [.int 3, .int 2, .int 5, .ref h1])), (h1, .inr (0, [.int 5, .ref o0, .int 5]))] [] sz z)) (va_Qi (fun (r : Int32) (_ : Unit) => r = 1) (fun (_ : Unit) (t : State) => PG (dC, dI) [(h0, .inr (1, [.int 3, .int 2, .int 5, .ref h1])), (h1, .inr (0, [.int 5, .ref o0, .int 5]))] [] (va_A [(h0, .inr (1, [.int 3, .int 2, .int 5, .ref h1])), (h1, .inr (0, [.int 5, .ref o0, .int 5]))] sz) sz 0 t) (va_A [(h0, .inr (1, [.int 3, .int 2, .int 5, .ref h1])), (h1, .inr (0, [.int 5, .ref o0, .int 5]))] sz)) 0 0 (va_A [(h0, .inr (1, [.int 3, .int 2, .int 5, .ref h1])), (h1, .inr (0, [.int 5, .ref o0, .int 5]))] sz) := by
  refine Met.ofW (cc := cJx35411_hasNext_aae02) (maxL := 1) (ret := (some .boolean)) (by decide) rfl ?_
  intro p e s m args below meth c s₁ B hml hv
  obtain ⟨rfl, hsz, hP, hK, hD0, hX, hT⟩ := hv
  have hx := B.exec
  have hb := B.bytes
  have hr := B.returns
  have hts0 := atoms_spec (ws := .code yJx35411_hasNext_aae02 cJx35411_hasNext_aae02 1 (some .boolean) :: wsL_law) B.pre
  have hts := xTail hts0
  have hown : s.vm.findClass RJx35411 = some m.cls := findClass_of_methodNamed B.named
  have hlocks := B.notSynchronized
  subst hsz
  have hD := hD0.self (sz := s.heap.size)
  generalize hAe : va_A [(h0, .inr (1, [.int 3, .int 2, .int 5, .ref h1])), (h1, .inr (0, [.int 5, .ref o0, .int 5]))] s.heap.size = A at hD hX ⊢
  have hA : ∀ q : Nat, s.heap.size ≤ q → A q := fun q h => by rw [← hAe]; exact Or.inr h
  have hS : va_S A s.heap s.heap [] := va_S.rf
  have hG : s.heap.size + 0 ≤ s.heap.size := Nat.le_refl _
  have hl := lv_entry ([.ref h0]) (n := 1) (Nat.le_of_ble_eq_true rfl)
  rw [lg_entry_eq]
  generalize (lg_sl ([.ref h0]) ++ List.replicate (1 - (lg_sl ([.ref h0])).length) Slot.unset).toArray = ls at hl ⊢
  have hl : lv_has ls 1 [(0, .ref h0)] := hl
  refine lv_aload_n hx hb dJx35411_hasNext_aae02_0 rfl (lv_at hl 0 rfl) ?_
  refine va_get (D := (dC, dI)) (ci := 1) (v := .int 3) (C := RJx35411) (T := TJx35411) (N := 4) hx hb hts in_Jx35411 hown hK hP 0 rfl rfl 0 (by decide) (hts _ q_259) (fun _ h9 => h9) rfl dJx35411_hasNext_aae02_1 ?_
  refine lv_aload_n hx hb dJx35411_hasNext_aae02_4 rfl (lv_at hl 0 rfl) ?_
  refine va_get (D := (dC, dI)) (ci := 1) (v := .ref h1) (C := RJx35411) (T := TJx35411) (N := 4) hx hb hts in_Jx35411 hown hK hP 0 rfl rfl 3 (by decide) (hts _ q_247) (fun _ h9 => h9) rfl dJx35411_hasNext_aae02_5 ?_
  refine va_getN (D := (dC, dI)) (ci := 0) (v := .int 5) (C := RJx4a65c) (T := TJx4a65c) (N := 3) hx hb hts in_Jx4a65c hown hK hP 1 rfl rfl 2 (by decide) (va_Nw.use rfl hT.2.2.2.2.1) (fun _ h9 => h9) rfl dJx35411_hasNext_aae02_8 ?_
  refine lv_icmp_eq (tgt := 18) hx hb dJx35411_hasNext_aae02_11 (by decide) (fun cz => absurd cz (by decide)) (fun _ => ?_)
  refine lv_iconst (v := 1) hx hb dJx35411_hasNext_aae02_14 (by decide) ?_
  refine lv_goto (tgt := 19) hx hb dJx35411_hasNext_aae02_15 (by decide) ?_
  exact W.zret (v := 1) (ty := .boolean) hx hb hr rfl (fun t9 ht9 hW9 => ⟨⟨1, (), rfl, rfl, ⟨pq_mk (wc := [(h0, .inr (1, [.int 3, .int 2, .int 5, .ref h1])), (h1, .inr (0, [.int 5, .ref o0, .int 5]))]) (tc := []) hP hD hK [0, 1] [] rfl rfl rfl rfl ht9 hW9, by rw [ht9]; exact Nat.le_trans (Nat.add_le_add_left (Nat.le_of_ble_eq_true rfl) _) hG⟩⟩, hS.F ht9⟩) hS.2.2 dJx35411_hasNext_aae02_19

set_option maxHeartbeats 4000000 in
set_option maxRecDepth 100000 in
theorem k451_checkForComodification (l : Launch) (hl9 : l.stackTraces = false) (dC : Nat → ClassId) (dI : Nat → Nat → Nat) (z : XZ) (h0 h1 : Nat) (o0 : Nat) (sz : Nat) : Met l yJx35411_checkForComodification_da8c8 (.code yJx35411_checkForComodification_da8c8 cJx35411_checkForComodification_da8c8 1 none :: wsL_law) ({ frames := 0, cells := 0, slots := 0, locals := 0 }) (va_Pc [.ref h0] (PC (dC, dI) [(h0, .inr (1, [.int 3, .int 2, .int 5, .ref h1])), (h1, .inr (0, [.int 5, .ref o0, .int 5]))] [] sz z)) (va_Qv (fun (_ : Unit) => True) (fun (_ : Unit) (t : State) => PG (dC, dI) [(h0, .inr (1, [.int 3, .int 2, .int 5, .ref h1])), (h1, .inr (0, [.int 5, .ref o0, .int 5]))] [] (va_A [(h0, .inr (1, [.int 3, .int 2, .int 5, .ref h1])), (h1, .inr (0, [.int 5, .ref o0, .int 5]))] sz) sz 0 t) (va_A [(h0, .inr (1, [.int 3, .int 2, .int 5, .ref h1])), (h1, .inr (0, [.int 5, .ref o0, .int 5]))] sz)) 0 0 (va_A [(h0, .inr (1, [.int 3, .int 2, .int 5, .ref h1])), (h1, .inr (0, [.int 5, .ref o0, .int 5]))] sz) := by
  refine Met.ofW (cc := cJx35411_checkForComodification_da8c8) (maxL := 1) (ret := none) (by decide) rfl ?_
  intro p e s m args below meth c s₁ B hml hv
  obtain ⟨rfl, hsz, hP, hK, hD0, hX, hT⟩ := hv
  have hx := B.exec
  have hb := B.bytes
  have hr := B.returns
  have hts0 := atoms_spec (ws := .code yJx35411_checkForComodification_da8c8 cJx35411_checkForComodification_da8c8 1 none :: wsL_law) B.pre
  have hts := xTail hts0
  have hown : s.vm.findClass RJx35411 = some m.cls := findClass_of_methodNamed B.named
  have hlocks := B.notSynchronized
  subst hsz
  have hD := hD0.self (sz := s.heap.size)
  generalize hAe : va_A [(h0, .inr (1, [.int 3, .int 2, .int 5, .ref h1])), (h1, .inr (0, [.int 5, .ref o0, .int 5]))] s.heap.size = A at hD hX ⊢
  have hA : ∀ q : Nat, s.heap.size ≤ q → A q := fun q h => by rw [← hAe]; exact Or.inr h
  have hS : va_S A s.heap s.heap [] := va_S.rf
  have hG : s.heap.size + 0 ≤ s.heap.size := Nat.le_refl _
  have hl := lv_entry ([.ref h0]) (n := 1) (Nat.le_of_ble_eq_true rfl)
  rw [lg_entry_eq]
  generalize (lg_sl ([.ref h0]) ++ List.replicate (1 - (lg_sl ([.ref h0])).length) Slot.unset).toArray = ls at hl ⊢
  have hl : lv_has ls 1 [(0, .ref h0)] := hl
  refine lv_aload_n hx hb dJx35411_checkForComodification_da8c8_0 rfl (lv_at hl 0 rfl) ?_
  refine va_get (D := (dC, dI)) (ci := 1) (v := .ref h1) (C := RJx35411) (T := TJx35411) (N := 4) hx hb hts in_Jx35411 hown hK hP 0 rfl rfl 3 (by decide) (hts _ q_247) (fun _ h9 => h9) rfl dJx35411_checkForComodification_da8c8_1 ?_
  refine va_get (D := (dC, dI)) (ci := 0) (v := .int 5) (C := RJx4a65c) (T := TJx4a65c) (N := 3) hx hb hts in_Jx4a65c hown hK hP 1 rfl rfl 0 (by decide) (hts _ q_250) (u_same (hts _ q_107)) rfl dJx35411_checkForComodification_da8c8_4 ?_
  refine lv_aload_n hx hb dJx35411_checkForComodification_da8c8_7 rfl (lv_at hl 0 rfl) ?_
  refine va_get (D := (dC, dI)) (ci := 1) (v := .int 5) (C := RJx35411) (T := TJx35411) (N := 4) hx hb hts in_Jx35411 hown hK hP 0 rfl rfl 2 (by decide) (hts _ q_251) (fun _ h9 => h9) rfl dJx35411_checkForComodification_da8c8_8 ?_
  refine lv_icmp_eq (tgt := 22) hx hb dJx35411_checkForComodification_da8c8_11 (by decide) (fun _ => ?_) (fun cz => absurd (by decide) cz)
  exact W.vret hx hb hr (fun t9 ht9 hW9 => ⟨⟨(), rfl, trivial, ⟨pq_mk (wc := [(h0, .inr (1, [.int 3, .int 2, .int 5, .ref h1])), (h1, .inr (0, [.int 5, .ref o0, .int 5]))]) (tc := []) hP hD hK [0, 1] [] rfl rfl rfl rfl ht9 hW9, by rw [ht9]; exact Nat.le_trans (Nat.add_le_add_left (Nat.le_of_ble_eq_true rfl) _) hG⟩⟩, hS.F ht9⟩) hS.2.2 dJx35411_checkForComodification_da8c8_22

set_option maxHeartbeats 4000000 in
set_option maxRecDepth 100000 in
theorem k452_next (l : Launch) (hl9 : l.stackTraces = false) (dC : Nat → ClassId) (dI : Nat → Nat → Nat) (z : XZ) (h0 h1 h2 : Nat) (o0 o1 o2 o3 o4 : Nat) (sz : Nat) (kc0 : ClassId) : Met l yJx35411_next_0502b (.code yJx35411_next_0502b cJx35411_next_0502b 3 (some (.object "java/lang/Object")) :: wsL_law) ({ frames := 1, cells := 0, slots := 0, locals := 20 }) (va_Pc [.ref h0] (PC (dC, dI) [(h0, .inr (1, [.int 3, .int 2, .int 5, .ref h1])), (h1, .inr (0, [.int 5, .ref h2, .int 5])), (h2, .inl (kc0, 10, .inr (.inr (.inr (.inr (va_up (va_up (va_up (va_up (va_up (fun _ => none) 0 (some o0)) 1 (some o1)) 2 (some o2)) 3 (some o3)) 4 (some o4)))))))] [(kc0, .object "java/lang/Object")] sz z)) (va_Qr (fun (_ : Unit) => True) (fun (_ : Unit) (ra : Nat) (t : State) => ra = o3 ∧ PG (dC, dI) [(h0, .inr (1, [.int 4, .int 3, .int 5, .ref h1])), (h1, .inr (0, [.int 5, .ref h2, .int 5])), (h2, .inl (kc0, 10, .inr (.inr (.inr (.inr (va_up (va_up (va_up (va_up (va_up (fun _ => none) 0 (some o0)) 1 (some o1)) 2 (some o2)) 3 (some o3)) 4 (some o4)))))))] [(kc0, .object "java/lang/Object")] (va_A [(h0, .inr (1, [.int 3, .int 2, .int 5, .ref h1])), (h1, .inr (0, [.int 5, .ref h2, .int 5])), (h2, .inl (kc0, 10, .inr (.inr (.inr (.inr (va_up (va_up (va_up (va_up (va_up (fun _ => none) 0 (some o0)) 1 (some o1)) 2 (some o2)) 3 (some o3)) 4 (some o4)))))))] sz) sz 0 t) (va_A [(h0, .inr (1, [.int 3, .int 2, .int 5, .ref h1])), (h1, .inr (0, [.int 5, .ref h2, .int 5])), (h2, .inl (kc0, 10, .inr (.inr (.inr (.inr (va_up (va_up (va_up (va_up (va_up (fun _ => none) 0 (some o0)) 1 (some o1)) 2 (some o2)) 3 (some o3)) 4 (some o4)))))))] sz)) 0 0 (va_A [(h0, .inr (1, [.int 3, .int 2, .int 5, .ref h1])), (h1, .inr (0, [.int 5, .ref h2, .int 5])), (h2, .inl (kc0, 10, .inr (.inr (.inr (.inr (va_up (va_up (va_up (va_up (va_up (fun _ => none) 0 (some o0)) 1 (some o1)) 2 (some o2)) 3 (some o3)) 4 (some o4)))))))] sz) := by
  refine Met.ofW (cc := cJx35411_next_0502b) (maxL := 3) (ret := (some (.object "java/lang/Object"))) (by decide) rfl ?_
  intro p e s m args below meth c s₁ B hml hv
  obtain ⟨rfl, hsz, hP, hK, hD0, hX, hT⟩ := hv
  have hx := B.exec
  have hb := B.bytes
  have hr := B.returns
  have hts0 := atoms_spec (ws := .code yJx35411_next_0502b cJx35411_next_0502b 3 (some (.object "java/lang/Object")) :: wsL_law) B.pre
  have hts := xTail hts0
  have hown : s.vm.findClass RJx35411 = some m.cls := findClass_of_methodNamed B.named
  have hlocks := B.notSynchronized
  subst hsz
  have hD := hD0.self (sz := s.heap.size)
  generalize hAe : va_A [(h0, .inr (1, [.int 3, .int 2, .int 5, .ref h1])), (h1, .inr (0, [.int 5, .ref h2, .int 5])), (h2, .inl (kc0, 10, .inr (.inr (.inr (.inr (va_up (va_up (va_up (va_up (va_up (fun _ => none) 0 (some o0)) 1 (some o1)) 2 (some o2)) 3 (some o3)) 4 (some o4)))))))] s.heap.size = A at hD hX ⊢
  have hA : ∀ q : Nat, s.heap.size ≤ q → A q := fun q h => by rw [← hAe]; exact Or.inr h
  have hS : va_S A s.heap s.heap [] := va_S.rf
  have hG : s.heap.size + 0 ≤ s.heap.size := Nat.le_refl _
  have hl := lv_entry ([.ref h0]) (n := 3) (Nat.le_of_ble_eq_true rfl)
  rw [lg_entry_eq]
  generalize (lg_sl ([.ref h0]) ++ List.replicate (3 - (lg_sl ([.ref h0])).length) Slot.unset).toArray = ls at hl ⊢
  have hl : lv_has ls 3 [(0, .ref h0)] := hl
  refine lv_aload_n hx hb dJx35411_next_0502b_0 rfl (lv_at hl 0 rfl) ?_
  have hF1 := va_free (wc := [(h0, .inr (1, [.int 3, .int 2, .int 5, .ref h1])), (h1, .inr (0, [.int 5, .ref h2, .int 5]))]) hD hS hA [0, 1] rfl
  refine va_callv (va_runV (As := []) (rest := []) ⟨hx, hb, hml, hown, hts⟩ (k451_checkForComodification l hl9 dC dI z h0 h1 h2 s.heap.size) (cwV 0 hts (gV q_303 q_304 q_305 q_246 q_302) rfl rfl rfl (by decide +kernel) ⟨Nat.le_of_ble_eq_true rfl, Nat.le_of_ble_eq_true rfl⟩) ⟨pc_blind, va_recv hK hP (ci := 1) (q0 := 0) rfl rfl, fun U hU hW => ⟨rfl, pc_mk hP hD hK hS hX hT [0, 1] [] rfl rfl rfl rfl hF1 hU hW⟩⟩ rfl rfl hl.1 rfl (lv_room (Nat.le_of_ble_eq_true rfl)) dJx35411_next_0502b_1 ⟨(Nat.le_of_ble_eq_true rfl), (Nat.le_of_ble_eq_true rfl)⟩) hS (fun q9 _ h9 => hF1 q9 h9) hF1 (fun u3 t3 H3 L3 ht3 hvm3 hw3 hB3 hz3 hk3 hS => ?_)
  obtain ⟨hP, hD, hK⟩ := pq_join (wr := [(h2, .inl (kc0, 10, .inr (.inr (.inr (.inr (va_up (va_up (va_up (va_up (va_up (fun _ => none) 0 (some o0)) 1 (some o1)) 2 (some o2)) 3 (some o3)) 4 (some o4)))))))]) (tr := [(kc0, .object "java/lang/Object")]) (wz := [(h2, .inl (kc0, 10, .inr (.inr (.inr (.inr (va_up (va_up (va_up (va_up (va_up (fun _ => none) 0 (some o0)) 1 (some o1)) 2 (some o2)) 3 (some o3)) 4 (some o4))))))), (h0, .inr (1, [.int 3, .int 2, .int 5, .ref h1])), (h1, .inr (0, [.int 5, .ref h2, .int 5]))]) (tz := [(kc0, .object "java/lang/Object")]) hP hD hK [0, 1] [2] [0] rfl rfl (by decide) (by decide) rfl hk3 hF1 hB3.1 ht3 hvm3 rfl rfl
  have hG : s.heap.size + 0 ≤ H3.size := Nat.le_trans hG hz3
  refine lv_aload_n hx hb dJx35411_next_0502b_4 rfl (lv_at hl 0 rfl) ?_
  refine va_get (D := (dC, dI)) (ci := 1) (v := .int 3) (C := RJx35411) (T := TJx35411) (N := 4) hx hb hts in_Jx35411 hown hK hP 1 rfl rfl 0 (by decide) (hts _ q_259) (fun _ h9 => h9) rfl dJx35411_next_0502b_5 ?_
  refine lv_istore_n (lv' := [(1, .int 3), (0, .ref h0)]) hx hb dJx35411_next_0502b_8 rfl hl (by decide) rfl (fun ls hl => ?_)
  refine lv_iload_n hx hb dJx35411_next_0502b_9 rfl (lv_at hl 0 rfl) ?_
  refine lv_aload_n hx hb dJx35411_next_0502b_10 rfl (lv_at hl 1 rfl) ?_
  refine va_get (D := (dC, dI)) (ci := 1) (v := .ref h1) (C := RJx35411) (T := TJx35411) (N := 4) hx hb hts in_Jx35411 hown hK hP 1 rfl rfl 3 (by decide) (hts _ q_247) (fun _ h9 => h9) rfl dJx35411_next_0502b_11 ?_
  refine va_getN (D := (dC, dI)) (ci := 0) (v := .int 5) (C := RJx4a65c) (T := TJx4a65c) (N := 3) hx hb hts in_Jx4a65c hown hK hP 2 rfl rfl 2 (by decide) (va_Nw.use rfl hT.2.2.2.2.1) (fun _ h9 => h9) rfl dJx35411_next_0502b_14 ?_
  refine lv_icmp_lt (tgt := 28) hx hb dJx35411_next_0502b_17 (by decide) (fun _ => ?_) (fun cz => absurd (by decide) cz)
  refine lv_aload_n hx hb dJx35411_next_0502b_28 rfl (lv_at hl 1 rfl) ?_
  refine va_get (D := (dC, dI)) (ci := 1) (v := .ref h1) (C := RJx35411) (T := TJx35411) (N := 4) hx hb hts in_Jx35411 hown hK hP 1 rfl rfl 3 (by decide) (hts _ q_247) (fun _ h9 => h9) rfl dJx35411_next_0502b_29 ?_
  refine va_get (D := (dC, dI)) (ci := 0) (v := .ref h2) (C := RJx4a65c) (T := TJx4a65c) (N := 3) hx hb hts in_Jx4a65c hown hK hP 2 rfl rfl 1 (by decide) (hts _ q_306) (fun _ h9 => h9) rfl dJx35411_next_0502b_32 ?_
  refine lv_astore_n (lv' := [(2, .ref h2), (1, .int 3), (0, .ref h0)]) hx hb dJx35411_next_0502b_35 rfl hl (by decide) rfl (fun ls hl => ?_)
  refine lv_iload_n hx hb dJx35411_next_0502b_36 rfl (lv_at hl 1 rfl) ?_
  refine lv_aload_n hx hb dJx35411_next_0502b_37 rfl (lv_at hl 0 rfl) ?_
  refine va_alen hx hb hK hP 0 0 rfl rfl (v := 10) rfl dJx35411_next_0502b_38 ?_
  refine lv_icmp_lt (tgt := 50) hx hb dJx35411_next_0502b_39 (by decide) (fun _ => ?_) (fun cz => absurd (by decide) cz)
  refine lv_aload_n hx hb dJx35411_next_0502b_50 rfl (lv_at hl 2 rfl) ?_
  refine lv_iload_n hx hb dJx35411_next_0502b_51 rfl (lv_at hl 1 rfl) ?_
  refine lv_iconst (v := 1) hx hb dJx35411_next_0502b_52 (by decide) ?_
  refine lv_iadd hx hb dJx35411_next_0502b_53 ?_
  refine lv_topi (fun y5 ey5 => ?_)
  obtain rfl : y5 = 4 := ey5.trans (by decide)
  refine va_put (D := (dC, dI)) (ci := 1) (v := .int 4) (ty := .int) (C := RJx35411) (T := TJx35411) (N := 4) hx hb hts in_Jx35411 tyJx35411 tyJx35411_ok nmJx35411 hown hK hP hD (va_Sre hS) 1 rfl rfl 0 (by decide) (hts _ q_259) (fun _ h9 => h9) rfl (by decide +kernel) rfl rfl (Nat.le_of_ble_eq_true rfl) dJx35411_next_0502b_54 (fun H6 _ hP hD hS' => ?_)
  have hG : s.heap.size + 0 ≤ H6.size := Nat.le_trans hG hS'.1
  have hS := va_Str hS hS'
  have hP : va_P (dC, dI) xCl [(h2, .inl (kc0, 10, .inr (.inr (.inr (.inr (va_up (va_up (va_up (va_up (va_up (fun _ => none) 0 (some o0)) 1 (some o1)) 2 (some o2)) 3 (some o3)) 4 (some o4))))))), (h0, .inr (1, [.int 4, .int 2, .int 5, .ref h1])), (h1, .inr (0, [.int 5, .ref h2, .int 5]))] H6 := hP
  have hD : va_D A [(h2, .inl (kc0, 10, .inr (.inr (.inr (.inr (va_up (va_up (va_up (va_up (va_up (fun _ => none) 0 (some o0)) 1 (some o1)) 2 (some o2)) 3 (some o3)) 4 (some o4))))))), (h0, .inr (1, [.int 4, .int 2, .int 5, .ref h1])), (h1, .inr (0, [.int 5, .ref h2, .int 5]))] := hD
  refine lv_aload_n hx hb dJx35411_next_0502b_57 rfl (lv_at hl 0 rfl) ?_
  refine lv_aload_n hx hb dJx35411_next_0502b_58 rfl (lv_at hl 2 rfl) ?_
  refine lv_iload_n hx hb dJx35411_next_0502b_59 rfl (lv_at hl 1 rfl) ?_
  refine lv_dup_x1 hx hb dJx35411_next_0502b_60 rfl rfl ?_
  refine va_put (D := (dC, dI)) (ci := 1) (v := .int 3) (ty := .int) (C := RJx35411) (T := TJx35411) (N := 4) hx hb hts in_Jx35411 tyJx35411 tyJx35411_ok nmJx35411 hown hK hP hD (va_Sre hS) 1 rfl rfl 1 (by decide) (hts _ q_249) (fun _ h9 => h9) rfl (by decide +kernel) rfl rfl (Nat.le_of_ble_eq_true rfl) dJx35411_next_0502b_61 (fun H7 _ hP hD hS' => ?_)
  have hG : s.heap.size + 0 ≤ H7.size := Nat.le_trans hG hS'.1
  have hS := va_Str hS hS'
  have hP : va_P (dC, dI) xCl [(h2, .inl (kc0, 10, .inr (.inr (.inr (.inr (va_up (va_up (va_up (va_up (va_up (fun _ => none) 0 (some o0)) 1 (some o1)) 2 (some o2)) 3 (some o3)) 4 (some o4))))))), (h0, .inr (1, [.int 4, .int 3, .int 5, .ref h1])), (h1, .inr (0, [.int 5, .ref h2, .int 5]))] H7 := hP
  have hD : va_D A [(h2, .inl (kc0, 10, .inr (.inr (.inr (.inr (va_up (va_up (va_up (va_up (va_up (fun _ => none) 0 (some o0)) 1 (some o1)) 2 (some o2)) 3 (some o3)) 4 (some o4))))))), (h0, .inr (1, [.int 4, .int 3, .int 5, .ref h1])), (h1, .inr (0, [.int 5, .ref h2, .int 5]))] := hD
  refine va_aldq hx hb hK hP 0 0 rfl rfl (i := 3) (by unfold vp_in; decide) dJx35411_next_0502b_64 ?_
  refine W.eq (g2 := F0 m 65 ls [.ref o3]) rfl ?_
  exact W.aret (v := .ref o3) hx hb hr (by first | exact Or.inl ⟨_, rfl⟩ | exact Or.inr ⟨_, rfl⟩) (Or.inr ⟨_, rfl⟩) (fun t9 ht9 hW9 => ⟨⟨(), o3, rfl, trivial, ⟨rfl, ⟨pq_mk (wc := [(h0, .inr (1, [.int 4, .int 3, .int 5, .ref h1])), (h1, .inr (0, [.int 5, .ref h2, .int 5])), (h2, .inl (kc0, 10, .inr (.inr (.inr (.inr (va_up (va_up (va_up (va_up (va_up (fun _ => none) 0 (some o0)) 1 (some o1)) 2 (some o2)) 3 (some o3)) 4 (some o4)))))))]) (tc := [(kc0, .object "java/lang/Object")]) hP hD hK [1, 2, 0] [0] rfl rfl rfl rfl ht9 hW9, by rw [ht9]; exact Nat.le_trans (Nat.add_le_add_left (Nat.le_of_ble_eq_true rfl) _) hG⟩⟩⟩, hS.F ht9⟩) hS.2.2 dJx35411_next_0502b_65

set_option maxHeartbeats 4000000 in
set_option maxRecDepth 100000 in
theorem k453_hasNext (l : Launch) (hl9 : l.stackTraces = false) (dC : Nat → ClassId) (dI : Nat → Nat → Nat) (z : XZ) (h0 h1 : Nat) (o0 : Nat) (sz : Nat) : Met l yJx35411_hasNext_aae02 (.code yJx35411_hasNext_aae02 cJx35411_hasNext_aae02 1 (some .boolean) :: wsL_law) ({ frames := 0, cells := 0, slots := 0, locals := 0 }) (va_Pc [.ref h0] (PC (dC, dI) [(h0, .inr (1, [.int 4, .int 3, .int 5, .ref h1])), (h1, .inr (0, [.int 5, .ref o0, .int 5]))] [] sz z)) (va_Qi (fun (r : Int32) (_ : Unit) => r = 1) (fun (_ : Unit) (t : State) => PG (dC, dI) [(h0, .inr (1, [.int 4, .int 3, .int 5, .ref h1])), (h1, .inr (0, [.int 5, .ref o0, .int 5]))] [] (va_A [(h0, .inr (1, [.int 4, .int 3, .int 5, .ref h1])), (h1, .inr (0, [.int 5, .ref o0, .int 5]))] sz) sz 0 t) (va_A [(h0, .inr (1, [.int 4, .int 3, .int 5, .ref h1])), (h1, .inr (0, [.int 5, .ref o0, .int 5]))] sz)) 0 0 (va_A [(h0, .inr (1, [.int 4, .int 3, .int 5, .ref h1])), (h1, .inr (0, [.int 5, .ref o0, .int 5]))] sz) := by
  refine Met.ofW (cc := cJx35411_hasNext_aae02) (maxL := 1) (ret := (some .boolean)) (by decide) rfl ?_
  intro p e s m args below meth c s₁ B hml hv
  obtain ⟨rfl, hsz, hP, hK, hD0, hX, hT⟩ := hv
  have hx := B.exec
  have hb := B.bytes
  have hr := B.returns
  have hts0 := atoms_spec (ws := .code yJx35411_hasNext_aae02 cJx35411_hasNext_aae02 1 (some .boolean) :: wsL_law) B.pre
  have hts := xTail hts0
  have hown : s.vm.findClass RJx35411 = some m.cls := findClass_of_methodNamed B.named
  have hlocks := B.notSynchronized
  subst hsz
  have hD := hD0.self (sz := s.heap.size)
  generalize hAe : va_A [(h0, .inr (1, [.int 4, .int 3, .int 5, .ref h1])), (h1, .inr (0, [.int 5, .ref o0, .int 5]))] s.heap.size = A at hD hX ⊢
  have hA : ∀ q : Nat, s.heap.size ≤ q → A q := fun q h => by rw [← hAe]; exact Or.inr h
  have hS : va_S A s.heap s.heap [] := va_S.rf
  have hG : s.heap.size + 0 ≤ s.heap.size := Nat.le_refl _
  have hl := lv_entry ([.ref h0]) (n := 1) (Nat.le_of_ble_eq_true rfl)
  rw [lg_entry_eq]
  generalize (lg_sl ([.ref h0]) ++ List.replicate (1 - (lg_sl ([.ref h0])).length) Slot.unset).toArray = ls at hl ⊢
  have hl : lv_has ls 1 [(0, .ref h0)] := hl
  refine lv_aload_n hx hb dJx35411_hasNext_aae02_0 rfl (lv_at hl 0 rfl) ?_
  refine va_get (D := (dC, dI)) (ci := 1) (v := .int 4) (C := RJx35411) (T := TJx35411) (N := 4) hx hb hts in_Jx35411 hown hK hP 0 rfl rfl 0 (by decide) (hts _ q_259) (fun _ h9 => h9) rfl dJx35411_hasNext_aae02_1 ?_
  refine lv_aload_n hx hb dJx35411_hasNext_aae02_4 rfl (lv_at hl 0 rfl) ?_
  refine va_get (D := (dC, dI)) (ci := 1) (v := .ref h1) (C := RJx35411) (T := TJx35411) (N := 4) hx hb hts in_Jx35411 hown hK hP 0 rfl rfl 3 (by decide) (hts _ q_247) (fun _ h9 => h9) rfl dJx35411_hasNext_aae02_5 ?_
  refine va_getN (D := (dC, dI)) (ci := 0) (v := .int 5) (C := RJx4a65c) (T := TJx4a65c) (N := 3) hx hb hts in_Jx4a65c hown hK hP 1 rfl rfl 2 (by decide) (va_Nw.use rfl hT.2.2.2.2.1) (fun _ h9 => h9) rfl dJx35411_hasNext_aae02_8 ?_
  refine lv_icmp_eq (tgt := 18) hx hb dJx35411_hasNext_aae02_11 (by decide) (fun cz => absurd cz (by decide)) (fun _ => ?_)
  refine lv_iconst (v := 1) hx hb dJx35411_hasNext_aae02_14 (by decide) ?_
  refine lv_goto (tgt := 19) hx hb dJx35411_hasNext_aae02_15 (by decide) ?_
  exact W.zret (v := 1) (ty := .boolean) hx hb hr rfl (fun t9 ht9 hW9 => ⟨⟨1, (), rfl, rfl, ⟨pq_mk (wc := [(h0, .inr (1, [.int 4, .int 3, .int 5, .ref h1])), (h1, .inr (0, [.int 5, .ref o0, .int 5]))]) (tc := []) hP hD hK [0, 1] [] rfl rfl rfl rfl ht9 hW9, by rw [ht9]; exact Nat.le_trans (Nat.add_le_add_left (Nat.le_of_ble_eq_true rfl) _) hG⟩⟩, hS.F ht9⟩) hS.2.2 dJx35411_hasNext_aae02_19

set_option maxHeartbeats 4000000 in
set_option maxRecDepth 100000 in
theorem k454_checkForComodification (l : Launch) (hl9 : l.stackTraces = false) (dC : Nat → ClassId) (dI : Nat → Nat → Nat) (z : XZ) (h0 h1 : Nat) (o0 : Nat) (sz : Nat) : Met l yJx35411_checkForComodification_da8c8 (.code yJx35411_checkForComodification_da8c8 cJx35411_checkForComodification_da8c8 1 none :: wsL_law) ({ frames := 0, cells := 0, slots := 0, locals := 0 }) (va_Pc [.ref h0] (PC (dC, dI) [(h0, .inr (1, [.int 4, .int 3, .int 5, .ref h1])), (h1, .inr (0, [.int 5, .ref o0, .int 5]))] [] sz z)) (va_Qv (fun (_ : Unit) => True) (fun (_ : Unit) (t : State) => PG (dC, dI) [(h0, .inr (1, [.int 4, .int 3, .int 5, .ref h1])), (h1, .inr (0, [.int 5, .ref o0, .int 5]))] [] (va_A [(h0, .inr (1, [.int 4, .int 3, .int 5, .ref h1])), (h1, .inr (0, [.int 5, .ref o0, .int 5]))] sz) sz 0 t) (va_A [(h0, .inr (1, [.int 4, .int 3, .int 5, .ref h1])), (h1, .inr (0, [.int 5, .ref o0, .int 5]))] sz)) 0 0 (va_A [(h0, .inr (1, [.int 4, .int 3, .int 5, .ref h1])), (h1, .inr (0, [.int 5, .ref o0, .int 5]))] sz) := by
  refine Met.ofW (cc := cJx35411_checkForComodification_da8c8) (maxL := 1) (ret := none) (by decide) rfl ?_
  intro p e s m args below meth c s₁ B hml hv
  obtain ⟨rfl, hsz, hP, hK, hD0, hX, hT⟩ := hv
  have hx := B.exec
  have hb := B.bytes
  have hr := B.returns
  have hts0 := atoms_spec (ws := .code yJx35411_checkForComodification_da8c8 cJx35411_checkForComodification_da8c8 1 none :: wsL_law) B.pre
  have hts := xTail hts0
  have hown : s.vm.findClass RJx35411 = some m.cls := findClass_of_methodNamed B.named
  have hlocks := B.notSynchronized
  subst hsz
  have hD := hD0.self (sz := s.heap.size)
  generalize hAe : va_A [(h0, .inr (1, [.int 4, .int 3, .int 5, .ref h1])), (h1, .inr (0, [.int 5, .ref o0, .int 5]))] s.heap.size = A at hD hX ⊢
  have hA : ∀ q : Nat, s.heap.size ≤ q → A q := fun q h => by rw [← hAe]; exact Or.inr h
  have hS : va_S A s.heap s.heap [] := va_S.rf
  have hG : s.heap.size + 0 ≤ s.heap.size := Nat.le_refl _
  have hl := lv_entry ([.ref h0]) (n := 1) (Nat.le_of_ble_eq_true rfl)
  rw [lg_entry_eq]
  generalize (lg_sl ([.ref h0]) ++ List.replicate (1 - (lg_sl ([.ref h0])).length) Slot.unset).toArray = ls at hl ⊢
  have hl : lv_has ls 1 [(0, .ref h0)] := hl
  refine lv_aload_n hx hb dJx35411_checkForComodification_da8c8_0 rfl (lv_at hl 0 rfl) ?_
  refine va_get (D := (dC, dI)) (ci := 1) (v := .ref h1) (C := RJx35411) (T := TJx35411) (N := 4) hx hb hts in_Jx35411 hown hK hP 0 rfl rfl 3 (by decide) (hts _ q_247) (fun _ h9 => h9) rfl dJx35411_checkForComodification_da8c8_1 ?_
  refine va_get (D := (dC, dI)) (ci := 0) (v := .int 5) (C := RJx4a65c) (T := TJx4a65c) (N := 3) hx hb hts in_Jx4a65c hown hK hP 1 rfl rfl 0 (by decide) (hts _ q_250) (u_same (hts _ q_107)) rfl dJx35411_checkForComodification_da8c8_4 ?_
  refine lv_aload_n hx hb dJx35411_checkForComodification_da8c8_7 rfl (lv_at hl 0 rfl) ?_
  refine va_get (D := (dC, dI)) (ci := 1) (v := .int 5) (C := RJx35411) (T := TJx35411) (N := 4) hx hb hts in_Jx35411 hown hK hP 0 rfl rfl 2 (by decide) (hts _ q_251) (fun _ h9 => h9) rfl dJx35411_checkForComodification_da8c8_8 ?_
  refine lv_icmp_eq (tgt := 22) hx hb dJx35411_checkForComodification_da8c8_11 (by decide) (fun _ => ?_) (fun cz => absurd (by decide) cz)
  exact W.vret hx hb hr (fun t9 ht9 hW9 => ⟨⟨(), rfl, trivial, ⟨pq_mk (wc := [(h0, .inr (1, [.int 4, .int 3, .int 5, .ref h1])), (h1, .inr (0, [.int 5, .ref o0, .int 5]))]) (tc := []) hP hD hK [0, 1] [] rfl rfl rfl rfl ht9 hW9, by rw [ht9]; exact Nat.le_trans (Nat.add_le_add_left (Nat.le_of_ble_eq_true rfl) _) hG⟩⟩, hS.F ht9⟩) hS.2.2 dJx35411_checkForComodification_da8c8_22

set_option maxHeartbeats 4000000 in
set_option maxRecDepth 100000 in
theorem k455_next (l : Launch) (hl9 : l.stackTraces = false) (dC : Nat → ClassId) (dI : Nat → Nat → Nat) (z : XZ) (h0 h1 h2 : Nat) (o0 o1 o2 o3 o4 : Nat) (sz : Nat) (kc0 : ClassId) : Met l yJx35411_next_0502b (.code yJx35411_next_0502b cJx35411_next_0502b 3 (some (.object "java/lang/Object")) :: wsL_law) ({ frames := 1, cells := 0, slots := 0, locals := 20 }) (va_Pc [.ref h0] (PC (dC, dI) [(h0, .inr (1, [.int 4, .int 3, .int 5, .ref h1])), (h1, .inr (0, [.int 5, .ref h2, .int 5])), (h2, .inl (kc0, 10, .inr (.inr (.inr (.inr (va_up (va_up (va_up (va_up (va_up (fun _ => none) 0 (some o0)) 1 (some o1)) 2 (some o2)) 3 (some o3)) 4 (some o4)))))))] [(kc0, .object "java/lang/Object")] sz z)) (va_Qr (fun (_ : Unit) => True) (fun (_ : Unit) (ra : Nat) (t : State) => ra = o4 ∧ PG (dC, dI) [(h0, .inr (1, [.int 5, .int 4, .int 5, .ref h1])), (h1, .inr (0, [.int 5, .ref h2, .int 5])), (h2, .inl (kc0, 10, .inr (.inr (.inr (.inr (va_up (va_up (va_up (va_up (va_up (fun _ => none) 0 (some o0)) 1 (some o1)) 2 (some o2)) 3 (some o3)) 4 (some o4)))))))] [(kc0, .object "java/lang/Object")] (va_A [(h0, .inr (1, [.int 4, .int 3, .int 5, .ref h1])), (h1, .inr (0, [.int 5, .ref h2, .int 5])), (h2, .inl (kc0, 10, .inr (.inr (.inr (.inr (va_up (va_up (va_up (va_up (va_up (fun _ => none) 0 (some o0)) 1 (some o1)) 2 (some o2)) 3 (some o3)) 4 (some o4)))))))] sz) sz 0 t) (va_A [(h0, .inr (1, [.int 4, .int 3, .int 5, .ref h1])), (h1, .inr (0, [.int 5, .ref h2, .int 5])), (h2, .inl (kc0, 10, .inr (.inr (.inr (.inr (va_up (va_up (va_up (va_up (va_up (fun _ => none) 0 (some o0)) 1 (some o1)) 2 (some o2)) 3 (some o3)) 4 (some o4)))))))] sz)) 0 0 (va_A [(h0, .inr (1, [.int 4, .int 3, .int 5, .ref h1])), (h1, .inr (0, [.int 5, .ref h2, .int 5])), (h2, .inl (kc0, 10, .inr (.inr (.inr (.inr (va_up (va_up (va_up (va_up (va_up (fun _ => none) 0 (some o0)) 1 (some o1)) 2 (some o2)) 3 (some o3)) 4 (some o4)))))))] sz) := by
  refine Met.ofW (cc := cJx35411_next_0502b) (maxL := 3) (ret := (some (.object "java/lang/Object"))) (by decide) rfl ?_
  intro p e s m args below meth c s₁ B hml hv
  obtain ⟨rfl, hsz, hP, hK, hD0, hX, hT⟩ := hv
  have hx := B.exec
  have hb := B.bytes
  have hr := B.returns
  have hts0 := atoms_spec (ws := .code yJx35411_next_0502b cJx35411_next_0502b 3 (some (.object "java/lang/Object")) :: wsL_law) B.pre
  have hts := xTail hts0
  have hown : s.vm.findClass RJx35411 = some m.cls := findClass_of_methodNamed B.named
  have hlocks := B.notSynchronized
  subst hsz
  have hD := hD0.self (sz := s.heap.size)
  generalize hAe : va_A [(h0, .inr (1, [.int 4, .int 3, .int 5, .ref h1])), (h1, .inr (0, [.int 5, .ref h2, .int 5])), (h2, .inl (kc0, 10, .inr (.inr (.inr (.inr (va_up (va_up (va_up (va_up (va_up (fun _ => none) 0 (some o0)) 1 (some o1)) 2 (some o2)) 3 (some o3)) 4 (some o4)))))))] s.heap.size = A at hD hX ⊢
  have hA : ∀ q : Nat, s.heap.size ≤ q → A q := fun q h => by rw [← hAe]; exact Or.inr h
  have hS : va_S A s.heap s.heap [] := va_S.rf
  have hG : s.heap.size + 0 ≤ s.heap.size := Nat.le_refl _
  have hl := lv_entry ([.ref h0]) (n := 3) (Nat.le_of_ble_eq_true rfl)
  rw [lg_entry_eq]
  generalize (lg_sl ([.ref h0]) ++ List.replicate (3 - (lg_sl ([.ref h0])).length) Slot.unset).toArray = ls at hl ⊢
  have hl : lv_has ls 3 [(0, .ref h0)] := hl
  refine lv_aload_n hx hb dJx35411_next_0502b_0 rfl (lv_at hl 0 rfl) ?_
  have hF1 := va_free (wc := [(h0, .inr (1, [.int 4, .int 3, .int 5, .ref h1])), (h1, .inr (0, [.int 5, .ref h2, .int 5]))]) hD hS hA [0, 1] rfl
  refine va_callv (va_runV (As := []) (rest := []) ⟨hx, hb, hml, hown, hts⟩ (k454_checkForComodification l hl9 dC dI z h0 h1 h2 s.heap.size) (cwV 0 hts (gV q_303 q_304 q_305 q_246 q_302) rfl rfl rfl (by decide +kernel) ⟨Nat.le_of_ble_eq_true rfl, Nat.le_of_ble_eq_true rfl⟩) ⟨pc_blind, va_recv hK hP (ci := 1) (q0 := 0) rfl rfl, fun U hU hW => ⟨rfl, pc_mk hP hD hK hS hX hT [0, 1] [] rfl rfl rfl rfl hF1 hU hW⟩⟩ rfl rfl hl.1 rfl (lv_room (Nat.le_of_ble_eq_true rfl)) dJx35411_next_0502b_1 ⟨(Nat.le_of_ble_eq_true rfl), (Nat.le_of_ble_eq_true rfl)⟩) hS (fun q9 _ h9 => hF1 q9 h9) hF1 (fun u3 t3 H3 L3 ht3 hvm3 hw3 hB3 hz3 hk3 hS => ?_)
  obtain ⟨hP, hD, hK⟩ := pq_join (wr := [(h2, .inl (kc0, 10, .inr (.inr (.inr (.inr (va_up (va_up (va_up (va_up (va_up (fun _ => none) 0 (some o0)) 1 (some o1)) 2 (some o2)) 3 (some o3)) 4 (some o4)))))))]) (tr := [(kc0, .object "java/lang/Object")]) (wz := [(h2, .inl (kc0, 10, .inr (.inr (.inr (.inr (va_up (va_up (va_up (va_up (va_up (fun _ => none) 0 (some o0)) 1 (some o1)) 2 (some o2)) 3 (some o3)) 4 (some o4))))))), (h0, .inr (1, [.int 4, .int 3, .int 5, .ref h1])), (h1, .inr (0, [.int 5, .ref h2, .int 5]))]) (tz := [(kc0, .object "java/lang/Object")]) hP hD hK [0, 1] [2] [0] rfl rfl (by decide) (by decide) rfl hk3 hF1 hB3.1 ht3 hvm3 rfl rfl
  have hG : s.heap.size + 0 ≤ H3.size := Nat.le_trans hG hz3
  refine lv_aload_n hx hb dJx35411_next_0502b_4 rfl (lv_at hl 0 rfl) ?_
  refine va_get (D := (dC, dI)) (ci := 1) (v := .int 4) (C := RJx35411) (T := TJx35411) (N := 4) hx hb hts in_Jx35411 hown hK hP 1 rfl rfl 0 (by decide) (hts _ q_259) (fun _ h9 => h9) rfl dJx35411_next_0502b_5 ?_
  refine lv_istore_n (lv' := [(1, .int 4), (0, .ref h0)]) hx hb dJx35411_next_0502b_8 rfl hl (by decide) rfl (fun ls hl => ?_)
  refine lv_iload_n hx hb dJx35411_next_0502b_9 rfl (lv_at hl 0 rfl) ?_
  refine lv_aload_n hx hb dJx35411_next_0502b_10 rfl (lv_at hl 1 rfl) ?_
  refine va_get (D := (dC, dI)) (ci := 1) (v := .ref h1) (C := RJx35411) (T := TJx35411) (N := 4) hx hb hts in_Jx35411 hown hK hP 1 rfl rfl 3 (by decide) (hts _ q_247) (fun _ h9 => h9) rfl dJx35411_next_0502b_11 ?_
  refine va_getN (D := (dC, dI)) (ci := 0) (v := .int 5) (C := RJx4a65c) (T := TJx4a65c) (N := 3) hx hb hts in_Jx4a65c hown hK hP 2 rfl rfl 2 (by decide) (va_Nw.use rfl hT.2.2.2.2.1) (fun _ h9 => h9) rfl dJx35411_next_0502b_14 ?_
  refine lv_icmp_lt (tgt := 28) hx hb dJx35411_next_0502b_17 (by decide) (fun _ => ?_) (fun cz => absurd (by decide) cz)
  refine lv_aload_n hx hb dJx35411_next_0502b_28 rfl (lv_at hl 1 rfl) ?_
  refine va_get (D := (dC, dI)) (ci := 1) (v := .ref h1) (C := RJx35411) (T := TJx35411) (N := 4) hx hb hts in_Jx35411 hown hK hP 1 rfl rfl 3 (by decide) (hts _ q_247) (fun _ h9 => h9) rfl dJx35411_next_0502b_29 ?_
  refine va_get (D := (dC, dI)) (ci := 0) (v := .ref h2) (C := RJx4a65c) (T := TJx4a65c) (N := 3) hx hb hts in_Jx4a65c hown hK hP 2 rfl rfl 1 (by decide) (hts _ q_306) (fun _ h9 => h9) rfl dJx35411_next_0502b_32 ?_
  refine lv_astore_n (lv' := [(2, .ref h2), (1, .int 4), (0, .ref h0)]) hx hb dJx35411_next_0502b_35 rfl hl (by decide) rfl (fun ls hl => ?_)
  refine lv_iload_n hx hb dJx35411_next_0502b_36 rfl (lv_at hl 1 rfl) ?_
  refine lv_aload_n hx hb dJx35411_next_0502b_37 rfl (lv_at hl 0 rfl) ?_
  refine va_alen hx hb hK hP 0 0 rfl rfl (v := 10) rfl dJx35411_next_0502b_38 ?_
  refine lv_icmp_lt (tgt := 50) hx hb dJx35411_next_0502b_39 (by decide) (fun _ => ?_) (fun cz => absurd (by decide) cz)
  refine lv_aload_n hx hb dJx35411_next_0502b_50 rfl (lv_at hl 2 rfl) ?_
  refine lv_iload_n hx hb dJx35411_next_0502b_51 rfl (lv_at hl 1 rfl) ?_
  refine lv_iconst (v := 1) hx hb dJx35411_next_0502b_52 (by decide) ?_
  refine lv_iadd hx hb dJx35411_next_0502b_53 ?_
  refine lv_topi (fun y5 ey5 => ?_)
  obtain rfl : y5 = 5 := ey5.trans (by decide)
  refine va_put (D := (dC, dI)) (ci := 1) (v := .int 5) (ty := .int) (C := RJx35411) (T := TJx35411) (N := 4) hx hb hts in_Jx35411 tyJx35411 tyJx35411_ok nmJx35411 hown hK hP hD (va_Sre hS) 1 rfl rfl 0 (by decide) (hts _ q_259) (fun _ h9 => h9) rfl (by decide +kernel) rfl rfl (Nat.le_of_ble_eq_true rfl) dJx35411_next_0502b_54 (fun H6 _ hP hD hS' => ?_)
  have hG : s.heap.size + 0 ≤ H6.size := Nat.le_trans hG hS'.1
  have hS := va_Str hS hS'
  have hP : va_P (dC, dI) xCl [(h2, .inl (kc0, 10, .inr (.inr (.inr (.inr (va_up (va_up (va_up (va_up (va_up (fun _ => none) 0 (some o0)) 1 (some o1)) 2 (some o2)) 3 (some o3)) 4 (some o4))))))), (h0, .inr (1, [.int 5, .int 3, .int 5, .ref h1])), (h1, .inr (0, [.int 5, .ref h2, .int 5]))] H6 := hP
  have hD : va_D A [(h2, .inl (kc0, 10, .inr (.inr (.inr (.inr (va_up (va_up (va_up (va_up (va_up (fun _ => none) 0 (some o0)) 1 (some o1)) 2 (some o2)) 3 (some o3)) 4 (some o4))))))), (h0, .inr (1, [.int 5, .int 3, .int 5, .ref h1])), (h1, .inr (0, [.int 5, .ref h2, .int 5]))] := hD
  refine lv_aload_n hx hb dJx35411_next_0502b_57 rfl (lv_at hl 0 rfl) ?_
  refine lv_aload_n hx hb dJx35411_next_0502b_58 rfl (lv_at hl 2 rfl) ?_
  refine lv_iload_n hx hb dJx35411_next_0502b_59 rfl (lv_at hl 1 rfl) ?_
  refine lv_dup_x1 hx hb dJx35411_next_0502b_60 rfl rfl ?_
  refine va_put (D := (dC, dI)) (ci := 1) (v := .int 4) (ty := .int) (C := RJx35411) (T := TJx35411) (N := 4) hx hb hts in_Jx35411 tyJx35411 tyJx35411_ok nmJx35411 hown hK hP hD (va_Sre hS) 1 rfl rfl 1 (by decide) (hts _ q_249) (fun _ h9 => h9) rfl (by decide +kernel) rfl rfl (Nat.le_of_ble_eq_true rfl) dJx35411_next_0502b_61 (fun H7 _ hP hD hS' => ?_)
  have hG : s.heap.size + 0 ≤ H7.size := Nat.le_trans hG hS'.1
  have hS := va_Str hS hS'
  have hP : va_P (dC, dI) xCl [(h2, .inl (kc0, 10, .inr (.inr (.inr (.inr (va_up (va_up (va_up (va_up (va_up (fun _ => none) 0 (some o0)) 1 (some o1)) 2 (some o2)) 3 (some o3)) 4 (some o4))))))), (h0, .inr (1, [.int 5, .int 4, .int 5, .ref h1])), (h1, .inr (0, [.int 5, .ref h2, .int 5]))] H7 := hP
  have hD : va_D A [(h2, .inl (kc0, 10, .inr (.inr (.inr (.inr (va_up (va_up (va_up (va_up (va_up (fun _ => none) 0 (some o0)) 1 (some o1)) 2 (some o2)) 3 (some o3)) 4 (some o4))))))), (h0, .inr (1, [.int 5, .int 4, .int 5, .ref h1])), (h1, .inr (0, [.int 5, .ref h2, .int 5]))] := hD
  refine va_aldq hx hb hK hP 0 0 rfl rfl (i := 4) (by unfold vp_in; decide) dJx35411_next_0502b_64 ?_
  refine W.eq (g2 := F0 m 65 ls [.ref o4]) rfl ?_
  exact W.aret (v := .ref o4) hx hb hr (by first | exact Or.inl ⟨_, rfl⟩ | exact Or.inr ⟨_, rfl⟩) (Or.inr ⟨_, rfl⟩) (fun t9 ht9 hW9 => ⟨⟨(), o4, rfl, trivial, ⟨rfl, ⟨pq_mk (wc := [(h0, .inr (1, [.int 5, .int 4, .int 5, .ref h1])), (h1, .inr (0, [.int 5, .ref h2, .int 5])), (h2, .inl (kc0, 10, .inr (.inr (.inr (.inr (va_up (va_up (va_up (va_up (va_up (fun _ => none) 0 (some o0)) 1 (some o1)) 2 (some o2)) 3 (some o3)) 4 (some o4)))))))]) (tc := [(kc0, .object "java/lang/Object")]) hP hD hK [1, 2, 0] [0] rfl rfl rfl rfl ht9 hW9, by rw [ht9]; exact Nat.le_trans (Nat.add_le_add_left (Nat.le_of_ble_eq_true rfl) _) hG⟩⟩⟩, hS.F ht9⟩) hS.2.2 dJx35411_next_0502b_65

set_option maxHeartbeats 4000000 in
set_option maxRecDepth 100000 in
theorem k456_hasNext (l : Launch) (hl9 : l.stackTraces = false) (dC : Nat → ClassId) (dI : Nat → Nat → Nat) (z : XZ) (h0 h1 : Nat) (o0 : Nat) (sz : Nat) : Met l yJx35411_hasNext_aae02 (.code yJx35411_hasNext_aae02 cJx35411_hasNext_aae02 1 (some .boolean) :: wsL_law) ({ frames := 0, cells := 0, slots := 0, locals := 0 }) (va_Pc [.ref h0] (PC (dC, dI) [(h0, .inr (1, [.int 5, .int 4, .int 5, .ref h1])), (h1, .inr (0, [.int 5, .ref o0, .int 5]))] [] sz z)) (va_Qi (fun (r : Int32) (_ : Unit) => r = 0) (fun (_ : Unit) (t : State) => PG (dC, dI) [(h0, .inr (1, [.int 5, .int 4, .int 5, .ref h1])), (h1, .inr (0, [.int 5, .ref o0, .int 5]))] [] (va_A [(h0, .inr (1, [.int 5, .int 4, .int 5, .ref h1])), (h1, .inr (0, [.int 5, .ref o0, .int 5]))] sz) sz 0 t) (va_A [(h0, .inr (1, [.int 5, .int 4, .int 5, .ref h1])), (h1, .inr (0, [.int 5, .ref o0, .int 5]))] sz)) 0 0 (va_A [(h0, .inr (1, [.int 5, .int 4, .int 5, .ref h1])), (h1, .inr (0, [.int 5, .ref o0, .int 5]))] sz) := by
  refine Met.ofW (cc := cJx35411_hasNext_aae02) (maxL := 1) (ret := (some .boolean)) (by decide) rfl ?_
  intro p e s m args below meth c s₁ B hml hv
  obtain ⟨rfl, hsz, hP, hK, hD0, hX, hT⟩ := hv
  have hx := B.exec
  have hb := B.bytes
  have hr := B.returns
  have hts0 := atoms_spec (ws := .code yJx35411_hasNext_aae02 cJx35411_hasNext_aae02 1 (some .boolean) :: wsL_law) B.pre
  have hts := xTail hts0
  have hown : s.vm.findClass RJx35411 = some m.cls := findClass_of_methodNamed B.named
  have hlocks := B.notSynchronized
  subst hsz
  have hD := hD0.self (sz := s.heap.size)
  generalize hAe : va_A [(h0, .inr (1, [.int 5, .int 4, .int 5, .ref h1])), (h1, .inr (0, [.int 5, .ref o0, .int 5]))] s.heap.size = A at hD hX ⊢
  have hA : ∀ q : Nat, s.heap.size ≤ q → A q := fun q h => by rw [← hAe]; exact Or.inr h
  have hS : va_S A s.heap s.heap [] := va_S.rf
  have hG : s.heap.size + 0 ≤ s.heap.size := Nat.le_refl _
  have hl := lv_entry ([.ref h0]) (n := 1) (Nat.le_of_ble_eq_true rfl)
  rw [lg_entry_eq]
  generalize (lg_sl ([.ref h0]) ++ List.replicate (1 - (lg_sl ([.ref h0])).length) Slot.unset).toArray = ls at hl ⊢
  have hl : lv_has ls 1 [(0, .ref h0)] := hl
  refine lv_aload_n hx hb dJx35411_hasNext_aae02_0 rfl (lv_at hl 0 rfl) ?_
  refine va_get (D := (dC, dI)) (ci := 1) (v := .int 5) (C := RJx35411) (T := TJx35411) (N := 4) hx hb hts in_Jx35411 hown hK hP 0 rfl rfl 0 (by decide) (hts _ q_259) (fun _ h9 => h9) rfl dJx35411_hasNext_aae02_1 ?_
  refine lv_aload_n hx hb dJx35411_hasNext_aae02_4 rfl (lv_at hl 0 rfl) ?_
  refine va_get (D := (dC, dI)) (ci := 1) (v := .ref h1) (C := RJx35411) (T := TJx35411) (N := 4) hx hb hts in_Jx35411 hown hK hP 0 rfl rfl 3 (by decide) (hts _ q_247) (fun _ h9 => h9) rfl dJx35411_hasNext_aae02_5 ?_
  refine va_getN (D := (dC, dI)) (ci := 0) (v := .int 5) (C := RJx4a65c) (T := TJx4a65c) (N := 3) hx hb hts in_Jx4a65c hown hK hP 1 rfl rfl 2 (by decide) (va_Nw.use rfl hT.2.2.2.2.1) (fun _ h9 => h9) rfl dJx35411_hasNext_aae02_8 ?_
  refine lv_icmp_eq (tgt := 18) hx hb dJx35411_hasNext_aae02_11 (by decide) (fun _ => ?_) (fun cz => absurd (by decide) cz)
  refine lv_iconst (v := 0) hx hb dJx35411_hasNext_aae02_18 (by decide) ?_
  exact W.zret (v := 0) (ty := .boolean) hx hb hr rfl (fun t9 ht9 hW9 => ⟨⟨0, (), rfl, rfl, ⟨pq_mk (wc := [(h0, .inr (1, [.int 5, .int 4, .int 5, .ref h1])), (h1, .inr (0, [.int 5, .ref o0, .int 5]))]) (tc := []) hP hD hK [0, 1] [] rfl rfl rfl rfl ht9 hW9, by rw [ht9]; exact Nat.le_trans (Nat.add_le_add_left (Nat.le_of_ble_eq_true rfl) _) hG⟩⟩, hS.F ht9⟩) hS.2.2 dJx35411_hasNext_aae02_19
