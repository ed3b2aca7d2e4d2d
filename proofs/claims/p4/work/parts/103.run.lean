set_option maxHeartbeats 4000000 in
set_option maxRecDepth 100000 in
theorem k76_settledAll (l : Launch) (hl9 : l.stackTraces = false) (dC : Nat → ClassId) (dI : Nat → Nat → Nat) (z : XZ) (h0 h1 h2 h3 h4 h5 h6 h7 : Nat) (o0 : Nat) (sz : Nat) (kc0 kc1 kc2 : ClassId) : Met l yX9_settledAll (.code yX9_settledAll cX9_settledAll 11 (some (.array .char)) :: wsL_law) ({ frames := 3, cells := 3, slots := 48, locals := 64 }) (va_Pc [.ref h0, .ref h1, .int (-1), .int 120] (PC (dC, dI) [(h0, .inr (8, [.int 0, .ref h2, .ref h3, .ref o0, .ref h4, .int 0])), (h1, .inl (kc0, 40, .inl (upd (fun _ => 0) 0 120))), (h2, .inr (0, [.int 1, .ref h5, .int 1])), (h3, .inr (0, [.int 0, .ref z.1, .int 0])), (h4, .inr (0, [.int 2, .ref h6, .int 1])), (h5, .inl (kc1, 10, .inr (.inr (.inr (.inr (va_up (fun _ => none) 0 (some h7))))))), (h6, .inl (kc2, 10, .inr (.inr (.inr (.inr (va_up (fun _ => none) 0 (some (z.2.2.1 128)))))))), (h7, .inr (7, [.int 105, .int 120, .int 0, .int (-1), .int 0, .int (-1)]))] [(kc0, .char), (kc1, .object "java/lang/Object"), (kc2, .object "java/lang/Object")] sz z)) (va_Qr (fun (_ : Unit) => True) (fun (_ : Unit) (ra : Nat) (t : State) => ∃ (n0 : Nat), ∃ (m0 : ClassId), ra = n0 ∧ PG (dC, dI) [(h0, .inr (8, [.int 0, .ref h2, .ref h3, .ref o0, .ref h4, .int 0])), (h1, .inl (kc0, 40, .inl (upd (fun _ => 0) 0 120))), (h2, .inr (0, [.int 1, .ref h5, .int 1])), (h3, .inr (0, [.int 0, .ref z.1, .int 0])), (h4, .inr (0, [.int 2, .ref h6, .int 1])), (h5, .inl (kc1, 10, .inr (.inr (.inr (.inr (va_up (fun _ => none) 0 (some h7))))))), (h6, .inl (kc2, 10, .inr (.inr (.inr (.inr (va_up (fun _ => none) 0 (some (z.2.2.1 128)))))))), (h7, .inr (7, [.int 105, .int 120, .int 0, .int (-1), .int 0, .int (-1)])), (n0, .inl (m0, 40, .inl (upd (fun _ => 0) 0 120)))] [(kc0, .char), (kc1, .object "java/lang/Object"), (kc2, .object "java/lang/Object"), (m0, .char)] (va_A [(h0, .inr (8, [.int 0, .ref h2, .ref h3, .ref o0, .ref h4, .int 0])), (h1, .inl (kc0, 40, .inl (upd (fun _ => 0) 0 120))), (h2, .inr (0, [.int 1, .ref h5, .int 1])), (h3, .inr (0, [.int 0, .ref z.1, .int 0])), (h4, .inr (0, [.int 2, .ref h6, .int 1])), (h5, .inl (kc1, 10, .inr (.inr (.inr (.inr (va_up (fun _ => none) 0 (some h7))))))), (h6, .inl (kc2, 10, .inr (.inr (.inr (.inr (va_up (fun _ => none) 0 (some (z.2.2.1 128)))))))), (h7, .inr (7, [.int 105, .int 120, .int 0, .int (-1), .int 0, .int (-1)]))] sz) sz 3 t) (va_A [(h0, .inr (8, [.int 0, .ref h2, .ref h3, .ref o0, .ref h4, .int 0])), (h1, .inl (kc0, 40, .inl (upd (fun _ => 0) 0 120))), (h2, .inr (0, [.int 1, .ref h5, .int 1])), (h3, .inr (0, [.int 0, .ref z.1, .int 0])), (h4, .inr (0, [.int 2, .ref h6, .int 1])), (h5, .inl (kc1, 10, .inr (.inr (.inr (.inr (va_up (fun _ => none) 0 (some h7))))))), (h6, .inl (kc2, 10, .inr (.inr (.inr (.inr (va_up (fun _ => none) 0 (some (z.2.2.1 128)))))))), (h7, .inr (7, [.int 105, .int 120, .int 0, .int (-1), .int 0, .int (-1)]))] sz)) 3 48 (va_A [(h0, .inr (8, [.int 0, .ref h2, .ref h3, .ref o0, .ref h4, .int 0])), (h1, .inl (kc0, 40, .inl (upd (fun _ => 0) 0 120))), (h2, .inr (0, [.int 1, .ref h5, .int 1])), (h3, .inr (0, [.int 0, .ref z.1, .int 0])), (h4, .inr (0, [.int 2, .ref h6, .int 1])), (h5, .inl (kc1, 10, .inr (.inr (.inr (.inr (va_up (fun _ => none) 0 (some h7))))))), (h6, .inl (kc2, 10, .inr (.inr (.inr (.inr (va_up (fun _ => none) 0 (some (z.2.2.1 128)))))))), (h7, .inr (7, [.int 105, .int 120, .int 0, .int (-1), .int 0, .int (-1)]))] sz) := by
  refine Met.ofW (cc := cX9_settledAll) (maxL := 11) (ret := (some (.array .char))) (by decide) rfl ?_
  intro p e s m args below meth c s₁ B hml hv
  obtain ⟨rfl, hsz, hP, hK, hD0, hX, hT⟩ := hv
  have hx := B.exec
  have hb := B.bytes
  have hr := B.returns
  have hts0 := atoms_spec (ws := .code yX9_settledAll cX9_settledAll 11 (some (.array .char)) :: wsL_law) B.pre
  have hts := xTail hts0
  have hown : s.vm.findClass RX9 = some m.cls := findClass_of_methodNamed B.named
  have hlocks := B.notSynchronized
  subst hsz
  have hD := hD0.self (sz := s.heap.size)
  generalize hAe : va_A [(h0, .inr (8, [.int 0, .ref h2, .ref h3, .ref o0, .ref h4, .int 0])), (h1, .inl (kc0, 40, .inl (upd (fun _ => 0) 0 120))), (h2, .inr (0, [.int 1, .ref h5, .int 1])), (h3, .inr (0, [.int 0, .ref z.1, .int 0])), (h4, .inr (0, [.int 2, .ref h6, .int 1])), (h5, .inl (kc1, 10, .inr (.inr (.inr (.inr (va_up (fun _ => none) 0 (some h7))))))), (h6, .inl (kc2, 10, .inr (.inr (.inr (.inr (va_up (fun _ => none) 0 (some (z.2.2.1 128)))))))), (h7, .inr (7, [.int 105, .int 120, .int 0, .int (-1), .int 0, .int (-1)]))] s.heap.size = A at hD hX ⊢
  have hA : ∀ q : Nat, s.heap.size ≤ q → A q := fun q h => by rw [← hAe]; exact Or.inr h
  have hS : va_S A s.heap s.heap [] := va_S.rf
  have hG : s.heap.size + 0 ≤ s.heap.size := Nat.le_refl _
  have hl := lv_entry ([.ref h0, .ref h1, .int (-1), .int 120]) (n := 11) (Nat.le_of_ble_eq_true rfl)
  rw [lg_entry_eq]
  generalize (lg_sl ([.ref h0, .ref h1, .int (-1), .int 120]) ++ List.replicate (11 - (lg_sl ([.ref h0, .ref h1, .int (-1), .int 120])).length) Slot.unset).toArray = ls at hl ⊢
  have hl : lv_has ls 11 [(0, .ref h0), (1, .ref h1), (2, .int (-1)), (3, .int 120)] := hl
  refine lv_bipush (v := 40) hx hb dX9_settledAll_0 (by decide) ?_
  refine xa_newa (atype := .char) hx hb (hts _ q_314) rfl hK hP hD hS hA (n := 40) (N' := 40) (a0 := (40, .inl (fun _ => 0))) (fun _ => rfl) (by decide) (by decide) (Nat.le_of_ble_eq_true rfl) (Nat.le_of_ble_eq_true rfl) (Nat.le_of_ble_eq_true rfl) dX9_settledAll_2 (fun a1 k2 H3 hg8 hK hP hD hS => ?_)
  have hG : s.heap.size + 1 ≤ H3.size := by rw [hg8]; exact Nat.succ_le_succ hG
  have hK : va_K (dC, dI) xCl [(kc0, .char), (kc1, .object "java/lang/Object"), (kc2, .object "java/lang/Object"), (k2, .char)] s := hK
  have hP : va_P (dC, dI) xCl [(h0, .inr (8, [.int 0, .ref h2, .ref h3, .ref o0, .ref h4, .int 0])), (h1, .inl (kc0, 40, .inl (upd (fun _ => 0) 0 120))), (h2, .inr (0, [.int 1, .ref h5, .int 1])), (h3, .inr (0, [.int 0, .ref z.1, .int 0])), (h4, .inr (0, [.int 2, .ref h6, .int 1])), (h5, .inl (kc1, 10, .inr (.inr (.inr (.inr (va_up (fun _ => none) 0 (some h7))))))), (h6, .inl (kc2, 10, .inr (.inr (.inr (.inr (va_up (fun _ => none) 0 (some (z.2.2.1 128)))))))), (h7, .inr (7, [.int 105, .int 120, .int 0, .int (-1), .int 0, .int (-1)])), (a1, .inl (k2, 40, .inl (fun _ => 0)))] H3 := hP
  have hD : va_D A [(h0, .inr (8, [.int 0, .ref h2, .ref h3, .ref o0, .ref h4, .int 0])), (h1, .inl (kc0, 40, .inl (upd (fun _ => 0) 0 120))), (h2, .inr (0, [.int 1, .ref h5, .int 1])), (h3, .inr (0, [.int 0, .ref z.1, .int 0])), (h4, .inr (0, [.int 2, .ref h6, .int 1])), (h5, .inl (kc1, 10, .inr (.inr (.inr (.inr (va_up (fun _ => none) 0 (some h7))))))), (h6, .inl (kc2, 10, .inr (.inr (.inr (.inr (va_up (fun _ => none) 0 (some (z.2.2.1 128)))))))), (h7, .inr (7, [.int 105, .int 120, .int 0, .int (-1), .int 0, .int (-1)])), (a1, .inl (k2, 40, .inl (fun _ => 0)))] := hD
  refine W.widen (k := 1) (n := 40) (by decide) (by decide) ?_
  refine lv_astore (lv' := [(4, .ref a1), (0, .ref h0), (1, .ref h1), (2, .int (-1)), (3, .int 120)]) hx hb dX9_settledAll_4 hl (by decide) rfl (fun ls hl => ?_)
  refine lv_aload_n hx hb dX9_settledAll_6 rfl (lv_at hl 1 rfl) ?_
  refine va_get (D := (dC, dI)) (ci := 8) (v := .ref h4) (C := RX9) (T := TX9) (N := 6) hx hb hts in_X9 hown hK hP 0 rfl rfl 4 (by decide) (hts _ q_67) (fun _ h9 => h9) rfl dX9_settledAll_7 ?_
  have hF4 := va_free (wc := [(h4, .inr (0, [.int 2, .ref h6, .int 1]))]) hD hS hA [4] rfl
  refine va_callr (va_runV (As := []) (rest := []) ⟨hx, hb, hml, hown, hts⟩ (k70_iterator l hl9 dC dI z h4 h6 H3.size) (cwV 0 hts (gV q_256 q_257 q_258 q_12 q_255) rfl rfl rfl (by decide +kernel) ⟨Nat.le_of_ble_eq_true rfl, Nat.le_of_ble_eq_true rfl⟩) ⟨pc_blind, va_recv hK hP (ci := 0) (q0 := 4) rfl rfl, fun U hU hW => ⟨rfl, pc_mk hP hD hK hS hX hT [4] [] rfl rfl rfl rfl hF4 hU hW⟩⟩ rfl rfl hl.1 rfl (lv_room (Nat.le_of_ble_eq_true rfl)) dX9_settledAll_10 ⟨(Nat.le_of_ble_eq_true rfl), (Nat.le_of_ble_eq_true rfl)⟩) hS (fun q9 _ h9 => hF4 q9 h9) hF4 (fun u6 r7 t6 H6 L6 ht6 hvm6 hw6 hB6 hz6 hk6 hS => ?_)
  obtain ⟨a8, hr6, hB6⟩ := hB6
  obtain ⟨hP, hD, hK⟩ := pq_join (wr := [(h0, .inr (8, [.int 0, .ref h2, .ref h3, .ref o0, .ref h4, .int 0])), (h1, .inl (kc0, 40, .inl (upd (fun _ => 0) 0 120))), (h2, .inr (0, [.int 1, .ref h5, .int 1])), (h3, .inr (0, [.int 0, .ref z.1, .int 0])), (h5, .inl (kc1, 10, .inr (.inr (.inr (.inr (va_up (fun _ => none) 0 (some h7))))))), (h6, .inl (kc2, 10, .inr (.inr (.inr (.inr (va_up (fun _ => none) 0 (some (z.2.2.1 128)))))))), (h7, .inr (7, [.int 105, .int 120, .int 0, .int (-1), .int 0, .int (-1)])), (a1, .inl (k2, 40, .inl (fun _ => 0)))]) (tr := [(kc0, .char), (kc1, .object "java/lang/Object"), (kc2, .object "java/lang/Object"), (k2, .char)]) (wz := [(h0, .inr (8, [.int 0, .ref h2, .ref h3, .ref o0, .ref h4, .int 0])), (h1, .inl (kc0, 40, .inl (upd (fun _ => 0) 0 120))), (h2, .inr (0, [.int 1, .ref h5, .int 1])), (h3, .inr (0, [.int 0, .ref z.1, .int 0])), (h5, .inl (kc1, 10, .inr (.inr (.inr (.inr (va_up (fun _ => none) 0 (some h7))))))), (h6, .inl (kc2, 10, .inr (.inr (.inr (.inr (va_up (fun _ => none) 0 (some (z.2.2.1 128)))))))), (h7, .inr (7, [.int 105, .int 120, .int 0, .int (-1), .int 0, .int (-1)])), (a1, .inl (k2, 40, .inl (fun _ => 0))), (h4, .inr (0, [.int 2, .ref h6, .int 1])), (a8, .inr (1, [.int 0, .int (-1), .int 2, .ref h4]))]) (tz := [(kc0, .char), (kc1, .object "java/lang/Object"), (kc2, .object "java/lang/Object"), (k2, .char)]) hP hD hK [4] [0, 1, 2, 3, 5, 6, 7, 8] [0, 1, 2, 3] rfl rfl (by decide) (by decide) rfl hk6 hF4 hB6.1 ht6 hvm6 rfl rfl
  have hG : s.heap.size + 2 ≤ H6.size := va_gr (g := 1) (g1 := 1) hG (by rw [← ht6]; exact hB6.2)
  refine W.eq (g2 := F0 m 13 ls [.ref a8]) (by rw [hr6]) ?_
  refine W.widen (k := 2) (n := 44) (by decide) (by decide) ?_
  refine lv_astore (lv' := [(5, .ref a8), (4, .ref a1), (0, .ref h0), (1, .ref h1), (2, .int (-1)), (3, .int 120)]) hx hb dX9_settledAll_13 hl (by decide) rfl (fun ls hl => ?_)
  refine lv_aload hx hb dX9_settledAll_15 (lv_at hl 0 rfl) ?_
  have hF9 := va_free (wc := [(a8, .inr (1, [.int 0, .int (-1), .int 2, .ref h4])), (h4, .inr (0, [.int 2, .ref h6, .int 1]))]) hD hS hA [9, 8] rfl
  refine va_callFi (va_runF (As := []) (rest := []) (hK.1 1 _ rfl).2 ⟨hx, hb, hml, hown, hts⟩ (k71_hasNext l hl9 dC dI z a8 h4 h6 H6.size) (va_cwF 0 hts (gF q_261 q_262 q_263 q_246 q_260) rfl rfl rfl hT.2.2.2.2.2.2.1 (by decide +kernel) ⟨Nat.le_of_ble_eq_true rfl, Nat.le_of_ble_eq_true rfl⟩) ⟨pc_blind, va_recv hK hP (ci := 1) (q0 := 9) rfl rfl, fun U hU hW => ⟨rfl, pc_mk hP hD hK hS hX hT [9, 8] [] rfl rfl rfl rfl hF9 hU hW⟩⟩ rfl rfl hl.1 rfl (lv_room (Nat.le_of_ble_eq_true rfl)) dX9_settledAll_17 ⟨(Nat.le_of_ble_eq_true rfl), (Nat.le_of_ble_eq_true rfl)⟩) hS (fun q9 _ h9 => hF9 q9 h9) hF9 (fun r12 u11 t11 H11 L11 ht11 hvm11 hw11 hB11 hz11 hk11 hS => ?_)
  obtain ⟨hP, hD, hK⟩ := pq_join (wr := [(h0, .inr (8, [.int 0, .ref h2, .ref h3, .ref o0, .ref h4, .int 0])), (h1, .inl (kc0, 40, .inl (upd (fun _ => 0) 0 120))), (h2, .inr (0, [.int 1, .ref h5, .int 1])), (h3, .inr (0, [.int 0, .ref z.1, .int 0])), (h5, .inl (kc1, 10, .inr (.inr (.inr (.inr (va_up (fun _ => none) 0 (some h7))))))), (h6, .inl (kc2, 10, .inr (.inr (.inr (.inr (va_up (fun _ => none) 0 (some (z.2.2.1 128)))))))), (h7, .inr (7, [.int 105, .int 120, .int 0, .int (-1), .int 0, .int (-1)])), (a1, .inl (k2, 40, .inl (fun _ => 0)))]) (tr := [(kc0, .char), (kc1, .object "java/lang/Object"), (kc2, .object "java/lang/Object"), (k2, .char)]) (wz := [(h0, .inr (8, [.int 0, .ref h2, .ref h3, .ref o0, .ref h4, .int 0])), (h1, .inl (kc0, 40, .inl (upd (fun _ => 0) 0 120))), (h2, .inr (0, [.int 1, .ref h5, .int 1])), (h3, .inr (0, [.int 0, .ref z.1, .int 0])), (h5, .inl (kc1, 10, .inr (.inr (.inr (.inr (va_up (fun _ => none) 0 (some h7))))))), (h6, .inl (kc2, 10, .inr (.inr (.inr (.inr (va_up (fun _ => none) 0 (some (z.2.2.1 128)))))))), (h7, .inr (7, [.int 105, .int 120, .int 0, .int (-1), .int 0, .int (-1)])), (a1, .inl (k2, 40, .inl (fun _ => 0))), (a8, .inr (1, [.int 0, .int (-1), .int 2, .ref h4])), (h4, .inr (0, [.int 2, .ref h6, .int 1]))]) (tz := [(kc0, .char), (kc1, .object "java/lang/Object"), (kc2, .object "java/lang/Object"), (k2, .char)]) hP hD hK [9, 8] [0, 1, 2, 3, 4, 5, 6, 7] [0, 1, 2, 3] rfl rfl (by decide) (by decide) rfl hk11 hF9 hB11.1 ht11 hvm11 rfl rfl
  have hG : s.heap.size + 2 ≤ H11.size := Nat.le_trans hG hz11
  refine W.eq (g2 := F0 m 22 ls [.int 1]) (by rw [hw11]) ?_
  refine lv_if_eq (tgt := 221) hx hb dX9_settledAll_22 (by decide) (fun cz => absurd cz (by decide)) (fun _ => ?_)
  refine lv_aload hx hb dX9_settledAll_25 (lv_at hl 0 rfl) ?_
  have hF13 := va_free (wc := [(a8, .inr (1, [.int 0, .int (-1), .int 2, .ref h4])), (h4, .inr (0, [.int 2, .ref h6, .int 1])), (h6, .inl (kc2, 10, .inr (.inr (.inr (.inr (va_up (fun _ => none) 0 (some (z.2.2.1 128))))))))]) hD hS hA [8, 9, 5] rfl
  refine va_callFr (va_runF (As := []) (rest := []) (hK.1 1 _ rfl).2 ⟨hx, hb, hml, hown, hts⟩ (k73_next l hl9 dC dI z a8 h4 h6 H11.size kc2) (va_cwF 0 hts (gF q_308 q_309 q_310 q_246 q_307) rfl rfl rfl hT.2.2.2.2.2.2.2.1 (by decide +kernel) ⟨Nat.le_of_ble_eq_true rfl, Nat.le_of_ble_eq_true rfl⟩) ⟨pc_blind, va_recv hK hP (ci := 1) (q0 := 8) rfl rfl, fun U hU hW => ⟨rfl, pc_mk hP hD hK hS hX hT [8, 9, 5] [2] rfl rfl rfl rfl hF13 hU hW⟩⟩ rfl rfl hl.1 rfl (lv_room (Nat.le_of_ble_eq_true rfl)) dX9_settledAll_27 ⟨(Nat.le_of_ble_eq_true rfl), (Nat.le_of_ble_eq_true rfl)⟩) hS (fun q9 _ h9 => hF13 q9 h9) hF13 (fun u15 r16 t15 H15 L15 ht15 hvm15 hw15 hB15 hz15 hk15 hS => ?_)
  obtain ⟨hr15, hB15⟩ := hB15
  obtain ⟨hP, hD, hK⟩ := pq_join (wr := [(h0, .inr (8, [.int 0, .ref h2, .ref h3, .ref o0, .ref h4, .int 0])), (h1, .inl (kc0, 40, .inl (upd (fun _ => 0) 0 120))), (h2, .inr (0, [.int 1, .ref h5, .int 1])), (h3, .inr (0, [.int 0, .ref z.1, .int 0])), (h5, .inl (kc1, 10, .inr (.inr (.inr (.inr (va_up (fun _ => none) 0 (some h7))))))), (h7, .inr (7, [.int 105, .int 120, .int 0, .int (-1), .int 0, .int (-1)])), (a1, .inl (k2, 40, .inl (fun _ => 0)))]) (tr := [(kc0, .char), (kc1, .object "java/lang/Object"), (k2, .char)]) (wz := [(h0, .inr (8, [.int 0, .ref h2, .ref h3, .ref o0, .ref h4, .int 0])), (h1, .inl (kc0, 40, .inl (upd (fun _ => 0) 0 120))), (h2, .inr (0, [.int 1, .ref h5, .int 1])), (h3, .inr (0, [.int 0, .ref z.1, .int 0])), (h5, .inl (kc1, 10, .inr (.inr (.inr (.inr (va_up (fun _ => none) 0 (some h7))))))), (h7, .inr (7, [.int 105, .int 120, .int 0, .int (-1), .int 0, .int (-1)])), (a1, .inl (k2, 40, .inl (fun _ => 0))), (a8, .inr (1, [.int 1, .int 0, .int 2, .ref h4])), (h4, .inr (0, [.int 2, .ref h6, .int 1])), (h6, .inl (kc2, 10, .inr (.inr (.inr (.inr (va_up (fun _ => none) 0 (some (z.2.2.1 128))))))))]) (tz := [(kc0, .char), (kc1, .object "java/lang/Object"), (k2, .char), (kc2, .object "java/lang/Object")]) hP hD hK [8, 9, 5] [0, 1, 2, 3, 4, 6, 7] [0, 1, 3] rfl rfl (by decide) (by decide) rfl hk15 hF13 hB15.1 ht15 hvm15 rfl rfl
  have hG : s.heap.size + 2 ≤ H15.size := Nat.le_trans hG hz15
  refine W.eq (g2 := F0 m 32 ls [.ref (z.2.2.1 128)]) (by rw [hr15]) ?_
  refine va_castE (nm := "java/lang/Integer") hx hb hown (hts _ q_320) (va_Orecv (hX.2.2.1.1.1 128 (by decide)) hS) dX9_settledAll_32 ?_
  have hF17 := va_free (wc := []) hD hS hA [] rfl
  refine va_calli (va_runV (As := []) (rest := []) ⟨hx, hb, hml, hown, hts⟩ (k74_intValue l hl9 dC dI z H15.size) (cwV 0 hts (gV q_323 q_324 q_325 q_297 q_322) rfl rfl rfl (by decide +kernel) ⟨Nat.le_of_ble_eq_true rfl, Nat.le_of_ble_eq_true rfl⟩) ⟨pc_blind, va_Orecv (hX.2.2.1.1.1 128 (by decide)) hS, fun U hU hW => ⟨rfl, pc_mk hP hD hK hS hX hT [] [] rfl rfl rfl rfl hF17 hU hW⟩⟩ rfl rfl hl.1 rfl (lv_room (Nat.le_of_ble_eq_true rfl)) dX9_settledAll_35 ⟨(Nat.le_of_ble_eq_true rfl), (Nat.le_of_ble_eq_true rfl)⟩) hS (fun q9 _ h9 => hF17 q9 h9) hF17 (fun r20 u19 t19 H19 L19 ht19 hvm19 hw19 hB19 hz19 hk19 hS => ?_)
  obtain ⟨hP, hD, hK⟩ := pq_join (wr := [(h0, .inr (8, [.int 0, .ref h2, .ref h3, .ref o0, .ref h4, .int 0])), (h1, .inl (kc0, 40, .inl (upd (fun _ => 0) 0 120))), (h2, .inr (0, [.int 1, .ref h5, .int 1])), (h3, .inr (0, [.int 0, .ref z.1, .int 0])), (h5, .inl (kc1, 10, .inr (.inr (.inr (.inr (va_up (fun _ => none) 0 (some h7))))))), (h7, .inr (7, [.int 105, .int 120, .int 0, .int (-1), .int 0, .int (-1)])), (a1, .inl (k2, 40, .inl (fun _ => 0))), (a8, .inr (1, [.int 1, .int 0, .int 2, .ref h4])), (h4, .inr (0, [.int 2, .ref h6, .int 1])), (h6, .inl (kc2, 10, .inr (.inr (.inr (.inr (va_up (fun _ => none) 0 (some (z.2.2.1 128))))))))]) (tr := [(kc0, .char), (kc1, .object "java/lang/Object"), (k2, .char), (kc2, .object "java/lang/Object")]) (wz := [(h0, .inr (8, [.int 0, .ref h2, .ref h3, .ref o0, .ref h4, .int 0])), (h1, .inl (kc0, 40, .inl (upd (fun _ => 0) 0 120))), (h2, .inr (0, [.int 1, .ref h5, .int 1])), (h3, .inr (0, [.int 0, .ref z.1, .int 0])), (h5, .inl (kc1, 10, .inr (.inr (.inr (.inr (va_up (fun _ => none) 0 (some h7))))))), (h7, .inr (7, [.int 105, .int 120, .int 0, .int (-1), .int 0, .int (-1)])), (a1, .inl (k2, 40, .inl (fun _ => 0))), (a8, .inr (1, [.int 1, .int 0, .int 2, .ref h4])), (h4, .inr (0, [.int 2, .ref h6, .int 1])), (h6, .inl (kc2, 10, .inr (.inr (.inr (.inr (va_up (fun _ => none) 0 (some (z.2.2.1 128))))))))]) (tz := [(kc0, .char), (kc1, .object "java/lang/Object"), (k2, .char), (kc2, .object "java/lang/Object")]) hP hD hK [] [0, 1, 2, 3, 4, 5, 6, 7, 8, 9] [0, 1, 2, 3] rfl rfl (by decide) (by decide) rfl hk19 hF17 hB19.1 ht19 hvm19 rfl rfl
  have hG : s.heap.size + 2 ≤ H19.size := Nat.le_trans hG hz19
  refine W.eq (g2 := F0 m 38 ls [.int 0]) (by rw [hw19]) ?_
  refine lv_istore (lv' := [(6, .int 0), (5, .ref a8), (4, .ref a1), (0, .ref h0), (1, .ref h1), (2, .int (-1)), (3, .int 120)]) hx hb dX9_settledAll_38 hl (by decide) rfl (fun ls hl => ?_)
  refine lv_aload_n hx hb dX9_settledAll_40 rfl (lv_at hl 3 rfl) ?_
  refine va_get (D := (dC, dI)) (ci := 8) (v := .ref h2) (C := RX9) (T := TX9) (N := 6) hx hb hts in_X9 hown hK hP 0 rfl rfl 1 (by decide) (hts _ q_64) (fun _ h9 => h9) rfl dX9_settledAll_41 ?_
  refine lv_iload hx hb dX9_settledAll_44 (lv_at hl 0 rfl) ?_
  have hF21 := va_free (wc := [(h2, .inr (0, [.int 1, .ref h5, .int 1])), (h5, .inl (kc1, 10, .inr (.inr (.inr (.inr (va_up (fun _ => none) 0 (some h7)))))))]) hD hS hA [2, 4] rfl
  refine va_callr (va_runV (As := [.int 0]) (rest := []) ⟨hx, hb, hml, hown, hts⟩ (k24_get l hl9 dC dI z h2 h5 h7 H19.size kc1) (cwV 1 hts (gV q_315 q_157 q_158 q_12 q_155) rfl rfl rfl (by decide +kernel) ⟨Nat.le_of_ble_eq_true rfl, Nat.le_of_ble_eq_true rfl⟩) ⟨pc_blind, va_recv hK hP (ci := 0) (q0 := 2) rfl rfl, fun U hU hW => ⟨rfl, pc_mk hP hD hK hS hX hT [2, 4] [1] rfl rfl rfl rfl hF21 hU hW⟩⟩ rfl rfl hl.1 rfl (lv_room (Nat.le_of_ble_eq_true rfl)) dX9_settledAll_46 ⟨(Nat.le_of_ble_eq_true rfl), (Nat.le_of_ble_eq_true rfl)⟩) hS (fun q9 _ h9 => hF21 q9 h9) hF21 (fun u23 r24 t23 H23 L23 ht23 hvm23 hw23 hB23 hz23 hk23 hS => ?_)
  obtain ⟨hr23, hB23⟩ := hB23
  obtain ⟨hP, hD, hK⟩ := pq_join (wr := [(h0, .inr (8, [.int 0, .ref h2, .ref h3, .ref o0, .ref h4, .int 0])), (h1, .inl (kc0, 40, .inl (upd (fun _ => 0) 0 120))), (h3, .inr (0, [.int 0, .ref z.1, .int 0])), (h7, .inr (7, [.int 105, .int 120, .int 0, .int (-1), .int 0, .int (-1)])), (a1, .inl (k2, 40, .inl (fun _ => 0))), (a8, .inr (1, [.int 1, .int 0, .int 2, .ref h4])), (h4, .inr (0, [.int 2, .ref h6, .int 1])), (h6, .inl (kc2, 10, .inr (.inr (.inr (.inr (va_up (fun _ => none) 0 (some (z.2.2.1 128))))))))]) (tr := [(kc0, .char), (k2, .char), (kc2, .object "java/lang/Object")]) (wz := [(h0, .inr (8, [.int 0, .ref h2, .ref h3, .ref o0, .ref h4, .int 0])), (h1, .inl (kc0, 40, .inl (upd (fun _ => 0) 0 120))), (h3, .inr (0, [.int 0, .ref z.1, .int 0])), (h7, .inr (7, [.int 105, .int 120, .int 0, .int (-1), .int 0, .int (-1)])), (a1, .inl (k2, 40, .inl (fun _ => 0))), (a8, .inr (1, [.int 1, .int 0, .int 2, .ref h4])), (h4, .inr (0, [.int 2, .ref h6, .int 1])), (h6, .inl (kc2, 10, .inr (.inr (.inr (.inr (va_up (fun _ => none) 0 (some (z.2.2.1 128)))))))), (h2, .inr (0, [.int 1, .ref h5, .int 1])), (h5, .inl (kc1, 10, .inr (.inr (.inr (.inr (va_up (fun _ => none) 0 (some h7)))))))]) (tz := [(kc0, .char), (k2, .char), (kc2, .object "java/lang/Object"), (kc1, .object "java/lang/Object")]) hP hD hK [2, 4] [0, 1, 3, 5, 6, 7, 8, 9] [0, 2, 3] rfl rfl (by decide) (by decide) rfl hk23 hF21 hB23.1 ht23 hvm23 rfl rfl
  have hG : s.heap.size + 2 ≤ H23.size := Nat.le_trans hG hz23
  refine W.eq (g2 := F0 m 49 ls [.ref h7]) (by rw [hr23]) ?_
  refine va_castE (nm := RX8) hx hb hown (hts _ q_273) (va_recv hK hP (ci := 7) (q0 := 3) rfl rfl) dX9_settledAll_49 ?_
  refine va_get (D := (dC, dI)) (ci := 7) (v := .int 105) (C := RX8) (T := TX8) (N := 6) hx hb hts in_X8 hown hK hP 3 rfl rfl 0 (by decide) (hts _ q_326) (fun _ h9 => h9) rfl dX9_settledAll_52 ?_
  refine lv_bipush (v := 98) hx hb dX9_settledAll_55 (by decide) ?_
  refine lv_icmp_ne (tgt := 64) hx hb dX9_settledAll_57 (by decide) (fun _ => ?_) (fun cz => absurd cz (by decide))
  refine lv_iconst (v := 0) hx hb dX9_settledAll_64 (by decide) ?_
  refine lv_istore (lv' := [(7, .int 0), (6, .int 0), (5, .ref a8), (4, .ref a1), (0, .ref h0), (1, .ref h1), (2, .int (-1)), (3, .int 120)]) hx hb dX9_settledAll_65 hl (by decide) rfl (fun ls hl => ?_)
  refine lv_aload hx hb dX9_settledAll_67 (lv_at hl 3 rfl) ?_
  refine lv_iload hx hb dX9_settledAll_69 (lv_at hl 1 rfl) ?_
  refine lv_iload hx hb dX9_settledAll_71 (lv_at hl 0 rfl) ?_
  refine lv_if_eq (tgt := 81) hx hb dX9_settledAll_73 (by decide) (fun _ => ?_) (fun cz => absurd (by decide) cz)
  refine lv_aload_n hx hb dX9_settledAll_81 rfl (lv_at hl 5 rfl) ?_
  refine lv_iload hx hb dX9_settledAll_82 (lv_at hl 1 rfl) ?_
  refine va_cald hx hb hK hP 1 0 rfl rfl (i := 0) (by unfold vp_in; decide) dX9_settledAll_84 ?_
  refine W.eq (g2 := F0 m 85 ls [.int 120, .int 0, .ref a1]) rfl ?_
  refine va_cast hx hb hK hP hD (va_Sre hS) 4 1 rfl rfl (i := 0) (by unfold vp_in; decide) dX9_settledAll_85 (fun H25 _ hP hD hS' => ?_)
  have hG : s.heap.size + 2 ≤ H25.size := Nat.le_trans hG hS'.1
  have hS := va_Str hS hS'
  have hP : va_P (dC, dI) xCl [(h0, .inr (8, [.int 0, .ref h2, .ref h3, .ref o0, .ref h4, .int 0])), (h1, .inl (kc0, 40, .inl (upd (fun _ => 0) 0 120))), (h3, .inr (0, [.int 0, .ref z.1, .int 0])), (h7, .inr (7, [.int 105, .int 120, .int 0, .int (-1), .int 0, .int (-1)])), (a1, .inl (k2, 40, .inl (upd (fun _ => 0) 0 120))), (a8, .inr (1, [.int 1, .int 0, .int 2, .ref h4])), (h4, .inr (0, [.int 2, .ref h6, .int 1])), (h6, .inl (kc2, 10, .inr (.inr (.inr (.inr (va_up (fun _ => none) 0 (some (z.2.2.1 128)))))))), (h2, .inr (0, [.int 1, .ref h5, .int 1])), (h5, .inl (kc1, 10, .inr (.inr (.inr (.inr (va_up (fun _ => none) 0 (some h7)))))))] H25 := hP
  have hD : va_D A [(h0, .inr (8, [.int 0, .ref h2, .ref h3, .ref o0, .ref h4, .int 0])), (h1, .inl (kc0, 40, .inl (upd (fun _ => 0) 0 120))), (h3, .inr (0, [.int 0, .ref z.1, .int 0])), (h7, .inr (7, [.int 105, .int 120, .int 0, .int (-1), .int 0, .int (-1)])), (a1, .inl (k2, 40, .inl (upd (fun _ => 0) 0 120))), (a8, .inr (1, [.int 1, .int 0, .int 2, .ref h4])), (h4, .inr (0, [.int 2, .ref h6, .int 1])), (h6, .inl (kc2, 10, .inr (.inr (.inr (.inr (va_up (fun _ => none) 0 (some (z.2.2.1 128)))))))), (h2, .inr (0, [.int 1, .ref h5, .int 1])), (h5, .inl (kc1, 10, .inr (.inr (.inr (.inr (va_up (fun _ => none) 0 (some h7)))))))] := hD
  refine lv_aload_n hx hb dX9_settledAll_86 rfl (lv_at hl 4 rfl) ?_
  refine va_get (D := (dC, dI)) (ci := 8) (v := .ref h3) (C := RX9) (T := TX9) (N := 6) hx hb hts in_X9 hown hK hP 0 rfl rfl 2 (by decide) (hts _ q_65) (fun _ h9 => h9) rfl dX9_settledAll_87 ?_
  have hF26 := va_free (wc := [(h3, .inr (0, [.int 0, .ref z.1, .int 0]))]) hD hS hA [2] rfl
  refine va_callr (va_runV (As := []) (rest := []) ⟨hx, hb, hml, hown, hts⟩ (k49_iterator l hl9 dC dI z h3 H25.size) (cwV 0 hts (gV q_256 q_257 q_258 q_12 q_255) rfl rfl rfl (by decide +kernel) ⟨Nat.le_of_ble_eq_true rfl, Nat.le_of_ble_eq_true rfl⟩) ⟨pc_blind, va_recv hK hP (ci := 0) (q0 := 2) rfl rfl, fun U hU hW => ⟨rfl, pc_mk hP hD hK hS hX hT [2] [] rfl rfl rfl rfl hF26 hU hW⟩⟩ rfl rfl hl.1 rfl (lv_room (Nat.le_of_ble_eq_true rfl)) dX9_settledAll_90 ⟨(Nat.le_of_ble_eq_true rfl), (Nat.le_of_ble_eq_true rfl)⟩) hS (fun q9 _ h9 => hF26 q9 h9) hF26 (fun u28 r29 t28 H28 L28 ht28 hvm28 hw28 hB28 hz28 hk28 hS => ?_)
  obtain ⟨a30, hr28, hB28⟩ := hB28
  obtain ⟨hP, hD, hK⟩ := pq_join (wr := [(h0, .inr (8, [.int 0, .ref h2, .ref h3, .ref o0, .ref h4, .int 0])), (h1, .inl (kc0, 40, .inl (upd (fun _ => 0) 0 120))), (h7, .inr (7, [.int 105, .int 120, .int 0, .int (-1), .int 0, .int (-1)])), (a1, .inl (k2, 40, .inl (upd (fun _ => 0) 0 120))), (a8, .inr (1, [.int 1, .int 0, .int 2, .ref h4])), (h4, .inr (0, [.int 2, .ref h6, .int 1])), (h6, .inl (kc2, 10, .inr (.inr (.inr (.inr (va_up (fun _ => none) 0 (some (z.2.2.1 128)))))))), (h2, .inr (0, [.int 1, .ref h5, .int 1])), (h5, .inl (kc1, 10, .inr (.inr (.inr (.inr (va_up (fun _ => none) 0 (some h7)))))))]) (tr := [(kc0, .char), (k2, .char), (kc2, .object "java/lang/Object"), (kc1, .object "java/lang/Object")]) (wz := [(h0, .inr (8, [.int 0, .ref h2, .ref h3, .ref o0, .ref h4, .int 0])), (h1, .inl (kc0, 40, .inl (upd (fun _ => 0) 0 120))), (h7, .inr (7, [.int 105, .int 120, .int 0, .int (-1), .int 0, .int (-1)])), (a1, .inl (k2, 40, .inl (upd (fun _ => 0) 0 120))), (a8, .inr (1, [.int 1, .int 0, .int 2, .ref h4])), (h4, .inr (0, [.int 2, .ref h6, .int 1])), (h6, .inl (kc2, 10, .inr (.inr (.inr (.inr (va_up (fun _ => none) 0 (some (z.2.2.1 128)))))))), (h2, .inr (0, [.int 1, .ref h5, .int 1])), (h5, .inl (kc1, 10, .inr (.inr (.inr (.inr (va_up (fun _ => none) 0 (some h7))))))), (h3, .inr (0, [.int 0, .ref z.1, .int 0])), (a30, .inr (1, [.int 0, .int (-1), .int 0, .ref h3]))]) (tz := [(kc0, .char), (k2, .char), (kc2, .object "java/lang/Object"), (kc1, .object "java/lang/Object")]) hP hD hK [2] [0, 1, 3, 4, 5, 6, 7, 8, 9] [0, 1, 2, 3] rfl rfl (by decide) (by decide) rfl hk28 hF26 hB28.1 ht28 hvm28 rfl rfl
  have hG : s.heap.size + 3 ≤ H28.size := va_gr (g := 2) (g1 := 1) hG (by rw [← ht28]; exact hB28.2)
  refine W.eq (g2 := F0 m 93 ls [.ref a30]) (by rw [hr28]) ?_
  refine W.widen (k := 3) (n := 48) (by decide) (by decide) ?_
  refine lv_astore (lv' := [(8, .ref a30), (7, .int 0), (6, .int 0), (5, .ref a8), (4, .ref a1), (0, .ref h0), (1, .ref h1), (2, .int (-1)), (3, .int 120)]) hx hb dX9_settledAll_93 hl (by decide) rfl (fun ls hl => ?_)
  refine lv_aload hx hb dX9_settledAll_95 (lv_at hl 0 rfl) ?_
  have hF31 := va_free (wc := [(a30, .inr (1, [.int 0, .int (-1), .int 0, .ref h3])), (h3, .inr (0, [.int 0, .ref z.1, .int 0]))]) hD hS hA [10, 9] rfl
  refine va_callFi (va_runF (As := []) (rest := []) (hK.1 1 _ rfl).2 ⟨hx, hb, hml, hown, hts⟩ (k50_hasNext l hl9 dC dI z a30 h3 H28.size) (va_cwF 0 hts (gF q_261 q_262 q_263 q_246 q_260) rfl rfl rfl hT.2.2.2.2.2.2.1 (by decide +kernel) ⟨Nat.le_of_ble_eq_true rfl, Nat.le_of_ble_eq_true rfl⟩) ⟨pc_blind, va_recv hK hP (ci := 1) (q0 := 10) rfl rfl, fun U hU hW => ⟨rfl, pc_mk hP hD hK hS hX hT [10, 9] [] rfl rfl rfl rfl hF31 hU hW⟩⟩ rfl rfl hl.1 rfl (lv_room (Nat.le_of_ble_eq_true rfl)) dX9_settledAll_97 ⟨(Nat.le_of_ble_eq_true rfl), (Nat.le_of_ble_eq_true rfl)⟩) hS (fun q9 _ h9 => hF31 q9 h9) hF31 (fun r34 u33 t33 H33 L33 ht33 hvm33 hw33 hB33 hz33 hk33 hS => ?_)
  obtain ⟨hP, hD, hK⟩ := pq_join (wr := [(h0, .inr (8, [.int 0, .ref h2, .ref h3, .ref o0, .ref h4, .int 0])), (h1, .inl (kc0, 40, .inl (upd (fun _ => 0) 0 120))), (h7, .inr (7, [.int 105, .int 120, .int 0, .int (-1), .int 0, .int (-1)])), (a1, .inl (k2, 40, .inl (upd (fun _ => 0) 0 120))), (a8, .inr (1, [.int 1, .int 0, .int 2, .ref h4])), (h4, .inr (0, [.int 2, .ref h6, .int 1])), (h6, .inl (kc2, 10, .inr (.inr (.inr (.inr (va_up (fun _ => none) 0 (some (z.2.2.1 128)))))))), (h2, .inr (0, [.int 1, .ref h5, .int 1])), (h5, .inl (kc1, 10, .inr (.inr (.inr (.inr (va_up (fun _ => none) 0 (some h7)))))))]) (tr := [(kc0, .char), (k2, .char), (kc2, .object "java/lang/Object"), (kc1, .object "java/lang/Object")]) (wz := [(h0, .inr (8, [.int 0, .ref h2, .ref h3, .ref o0, .ref h4, .int 0])), (h1, .inl (kc0, 40, .inl (upd (fun _ => 0) 0 120))), (h7, .inr (7, [.int 105, .int 120, .int 0, .int (-1), .int 0, .int (-1)])), (a1, .inl (k2, 40, .inl (upd (fun _ => 0) 0 120))), (a8, .inr (1, [.int 1, .int 0, .int 2, .ref h4])), (h4, .inr (0, [.int 2, .ref h6, .int 1])), (h6, .inl (kc2, 10, .inr (.inr (.inr (.inr (va_up (fun _ => none) 0 (some (z.2.2.1 128)))))))), (h2, .inr (0, [.int 1, .ref h5, .int 1])), (h5, .inl (kc1, 10, .inr (.inr (.inr (.inr (va_up (fun _ => none) 0 (some h7))))))), (a30, .inr (1, [.int 0, .int (-1), .int 0, .ref h3])), (h3, .inr (0, [.int 0, .ref z.1, .int 0]))]) (tz := [(kc0, .char), (k2, .char), (kc2, .object "java/lang/Object"), (kc1, .object "java/lang/Object")]) hP hD hK [10, 9] [0, 1, 2, 3, 4, 5, 6, 7, 8] [0, 1, 2, 3] rfl rfl (by decide) (by decide) rfl hk33 hF31 hB33.1 ht33 hvm33 rfl rfl
  have hG : s.heap.size + 3 ≤ H33.size := Nat.le_trans hG hz33
  refine W.eq (g2 := F0 m 102 ls [.int 0]) (by rw [hw33]) ?_
  refine lv_if_eq (tgt := 198) hx hb dX9_settledAll_102 (by decide) (fun _ => ?_) (fun cz => absurd (by decide) cz)
  refine lv_aload hx hb dX9_settledAll_198 (lv_at hl 4 rfl) ?_
  refine lv_iload hx hb dX9_settledAll_200 (lv_at hl 2 rfl) ?_
  refine lv_iload hx hb dX9_settledAll_202 (lv_at hl 2 rfl) ?_
  refine lv_iload_n hx hb dX9_settledAll_204 rfl (lv_at hl 7 rfl) ?_
  refine lv_icmp_ne (tgt := 212) hx hb dX9_settledAll_205 (by decide) (fun _ => ?_) (fun cz => absurd cz (by decide))
  refine lv_aload hx hb dX9_settledAll_212 (lv_at hl 4 rfl) ?_
  refine lv_iload hx hb dX9_settledAll_214 (lv_at hl 2 rfl) ?_
  refine va_cald hx hb hK hP 3 1 rfl rfl (i := 0) (by unfold vp_in; decide) dX9_settledAll_216 ?_
  refine W.eq (g2 := F0 m 217 ls [.int 120, .int 0, .ref a1]) rfl ?_
  refine va_cast hx hb hK hP hD (va_Sre hS) 3 1 rfl rfl (i := 0) (by unfold vp_in; decide) dX9_settledAll_217 (fun H35 _ hP hD hS' => ?_)
  have hG : s.heap.size + 3 ≤ H35.size := Nat.le_trans hG hS'.1
  have hS := va_Str hS hS'
  have hP : va_P (dC, dI) xCl [(h0, .inr (8, [.int 0, .ref h2, .ref h3, .ref o0, .ref h4, .int 0])), (h1, .inl (kc0, 40, .inl (upd (fun _ => 0) 0 120))), (h7, .inr (7, [.int 105, .int 120, .int 0, .int (-1), .int 0, .int (-1)])), (a1, .inl (k2, 40, .inl (upd (upd (fun _ => 0) 0 120) 0 120))), (a8, .inr (1, [.int 1, .int 0, .int 2, .ref h4])), (h4, .inr (0, [.int 2, .ref h6, .int 1])), (h6, .inl (kc2, 10, .inr (.inr (.inr (.inr (va_up (fun _ => none) 0 (some (z.2.2.1 128)))))))), (h2, .inr (0, [.int 1, .ref h5, .int 1])), (h5, .inl (kc1, 10, .inr (.inr (.inr (.inr (va_up (fun _ => none) 0 (some h7))))))), (a30, .inr (1, [.int 0, .int (-1), .int 0, .ref h3])), (h3, .inr (0, [.int 0, .ref z.1, .int 0]))] H35 := hP
  have hD : va_D A [(h0, .inr (8, [.int 0, .ref h2, .ref h3, .ref o0, .ref h4, .int 0])), (h1, .inl (kc0, 40, .inl (upd (fun _ => 0) 0 120))), (h7, .inr (7, [.int 105, .int 120, .int 0, .int (-1), .int 0, .int (-1)])), (a1, .inl (k2, 40, .inl (upd (upd (fun _ => 0) 0 120) 0 120))), (a8, .inr (1, [.int 1, .int 0, .int 2, .ref h4])), (h4, .inr (0, [.int 2, .ref h6, .int 1])), (h6, .inl (kc2, 10, .inr (.inr (.inr (.inr (va_up (fun _ => none) 0 (some (z.2.2.1 128)))))))), (h2, .inr (0, [.int 1, .ref h5, .int 1])), (h5, .inl (kc1, 10, .inr (.inr (.inr (.inr (va_up (fun _ => none) 0 (some h7))))))), (a30, .inr (1, [.int 0, .int (-1), .int 0, .ref h3])), (h3, .inr (0, [.int 0, .ref z.1, .int 0]))] := hD
  refine lv_goto (tgt := 15) hx hb dX9_settledAll_218 (by decide) ?_
  refine lv_aload hx hb dX9_settledAll_15 (lv_at hl 3 rfl) ?_
  have hF36 := va_free (wc := [(a8, .inr (1, [.int 1, .int 0, .int 2, .ref h4])), (h4, .inr (0, [.int 2, .ref h6, .int 1]))]) hD hS hA [4, 5] rfl
  refine va_callFi (va_runF (As := []) (rest := []) (hK.1 1 _ rfl).2 ⟨hx, hb, hml, hown, hts⟩ (k75_hasNext l hl9 dC dI z a8 h4 h6 H35.size) (va_cwF 0 hts (gF q_261 q_262 q_263 q_246 q_260) rfl rfl rfl hT.2.2.2.2.2.2.1 (by decide +kernel) ⟨Nat.le_of_ble_eq_true rfl, Nat.le_of_ble_eq_true rfl⟩) ⟨pc_blind, va_recv hK hP (ci := 1) (q0 := 4) rfl rfl, fun U hU hW => ⟨rfl, pc_mk hP hD hK hS hX hT [4, 5] [] rfl rfl rfl rfl hF36 hU hW⟩⟩ rfl rfl hl.1 rfl (lv_room (Nat.le_of_ble_eq_true rfl)) dX9_settledAll_17 ⟨(Nat.le_of_ble_eq_true rfl), (Nat.le_of_ble_eq_true rfl)⟩) hS (fun q9 _ h9 => hF36 q9 h9) hF36 (fun r39 u38 t38 H38 L38 ht38 hvm38 hw38 hB38 hz38 hk38 hS => ?_)
  obtain ⟨hP, hD, hK⟩ := pq_join (wr := [(h0, .inr (8, [.int 0, .ref h2, .ref h3, .ref o0, .ref h4, .int 0])), (h1, .inl (kc0, 40, .inl (upd (fun _ => 0) 0 120))), (h7, .inr (7, [.int 105, .int 120, .int 0, .int (-1), .int 0, .int (-1)])), (a1, .inl (k2, 40, .inl (upd (upd (fun _ => 0) 0 120) 0 120))), (h6, .inl (kc2, 10, .inr (.inr (.inr (.inr (va_up (fun _ => none) 0 (some (z.2.2.1 128)))))))), (h2, .inr (0, [.int 1, .ref h5, .int 1])), (h5, .inl (kc1, 10, .inr (.inr (.inr (.inr (va_up (fun _ => none) 0 (some h7))))))), (a30, .inr (1, [.int 0, .int (-1), .int 0, .ref h3])), (h3, .inr (0, [.int 0, .ref z.1, .int 0]))]) (tr := [(kc0, .char), (k2, .char), (kc2, .object "java/lang/Object"), (kc1, .object "java/lang/Object")]) (wz := [(h0, .inr (8, [.int 0, .ref h2, .ref h3, .ref o0, .ref h4, .int 0])), (h1, .inl (kc0, 40, .inl (upd (fun _ => 0) 0 120))), (h7, .inr (7, [.int 105, .int 120, .int 0, .int (-1), .int 0, .int (-1)])), (a1, .inl (k2, 40, .inl (upd (upd (fun _ => 0) 0 120) 0 120))), (h6, .inl (kc2, 10, .inr (.inr (.inr (.inr (va_up (fun _ => none) 0 (some (z.2.2.1 128)))))))), (h2, .inr (0, [.int 1, .ref h5, .int 1])), (h5, .inl (kc1, 10, .inr (.inr (.inr (.inr (va_up (fun _ => none) 0 (some h7))))))), (a30, .inr (1, [.int 0, .int (-1), .int 0, .ref h3])), (h3, .inr (0, [.int 0, .ref z.1, .int 0])), (a8, .inr (1, [.int 1, .int 0, .int 2, .ref h4])), (h4, .inr (0, [.int 2, .ref h6, .int 1]))]) (tz := [(kc0, .char), (k2, .char), (kc2, .object "java/lang/Object"), (kc1, .object "java/lang/Object")]) hP hD hK [4, 5] [0, 1, 2, 3, 6, 7, 8, 9, 10] [0, 1, 2, 3] rfl rfl (by decide) (by decide) rfl hk38 hF36 hB38.1 ht38 hvm38 rfl rfl
  have hG : s.heap.size + 3 ≤ H38.size := Nat.le_trans hG hz38
  refine W.eq (g2 := F0 m 22 ls [.int 0]) (by rw [hw38]) ?_
  refine lv_if_eq (tgt := 221) hx hb dX9_settledAll_22 (by decide) (fun _ => ?_) (fun cz => absurd (by decide) cz)
  refine lv_aload hx hb dX9_settledAll_221 (lv_at hl 4 rfl) ?_
  have hu40 : (upd (upd (fun _ => 0) 0 120) 0 120) = (upd (fun _ => 0) 0 120) := by funext j; by_cases g0 : j = 0; (subst g0; rfl); simp only [upd, g0, if_false]
  rw [hu40] at hP hD
  have hP : va_P (dC, dI) xCl [(h0, .inr (8, [.int 0, .ref h2, .ref h3, .ref o0, .ref h4, .int 0])), (h1, .inl (kc0, 40, .inl (upd (fun _ => 0) 0 120))), (h7, .inr (7, [.int 105, .int 120, .int 0, .int (-1), .int 0, .int (-1)])), (a1, .inl (k2, 40, .inl (upd (fun _ => 0) 0 120))), (h6, .inl (kc2, 10, .inr (.inr (.inr (.inr (va_up (fun _ => none) 0 (some (z.2.2.1 128)))))))), (h2, .inr (0, [.int 1, .ref h5, .int 1])), (h5, .inl (kc1, 10, .inr (.inr (.inr (.inr (va_up (fun _ => none) 0 (some h7))))))), (a30, .inr (1, [.int 0, .int (-1), .int 0, .ref h3])), (h3, .inr (0, [.int 0, .ref z.1, .int 0])), (a8, .inr (1, [.int 1, .int 0, .int 2, .ref h4])), (h4, .inr (0, [.int 2, .ref h6, .int 1]))] H38 := hP
  have hD : va_D A [(h0, .inr (8, [.int 0, .ref h2, .ref h3, .ref o0, .ref h4, .int 0])), (h1, .inl (kc0, 40, .inl (upd (fun _ => 0) 0 120))), (h7, .inr (7, [.int 105, .int 120, .int 0, .int (-1), .int 0, .int (-1)])), (a1, .inl (k2, 40, .inl (upd (fun _ => 0) 0 120))), (h6, .inl (kc2, 10, .inr (.inr (.inr (.inr (va_up (fun _ => none) 0 (some (z.2.2.1 128)))))))), (h2, .inr (0, [.int 1, .ref h5, .int 1])), (h5, .inl (kc1, 10, .inr (.inr (.inr (.inr (va_up (fun _ => none) 0 (some h7))))))), (a30, .inr (1, [.int 0, .int (-1), .int 0, .ref h3])), (h3, .inr (0, [.int 0, .ref z.1, .int 0])), (a8, .inr (1, [.int 1, .int 0, .int 2, .ref h4])), (h4, .inr (0, [.int 2, .ref h6, .int 1]))] := hD
  exact W.aret (v := .ref a1) hx hb hr (by first | exact Or.inl ⟨_, rfl⟩ | exact Or.inr ⟨_, rfl⟩) (Or.inr ⟨_, rfl⟩) (fun t9 ht9 hW9 => ⟨⟨(), a1, rfl, trivial, ⟨a1, k2, rfl, ⟨pq_mk (wc := [(h0, .inr (8, [.int 0, .ref h2, .ref h3, .ref o0, .ref h4, .int 0])), (h1, .inl (kc0, 40, .inl (upd (fun _ => 0) 0 120))), (h2, .inr (0, [.int 1, .ref h5, .int 1])), (h3, .inr (0, [.int 0, .ref z.1, .int 0])), (h4, .inr (0, [.int 2, .ref h6, .int 1])), (h5, .inl (kc1, 10, .inr (.inr (.inr (.inr (va_up (fun _ => none) 0 (some h7))))))), (h6, .inl (kc2, 10, .inr (.inr (.inr (.inr (va_up (fun _ => none) 0 (some (z.2.2.1 128)))))))), (h7, .inr (7, [.int 105, .int 120, .int 0, .int (-1), .int 0, .int (-1)])), (a1, .inl (k2, 40, .inl (upd (fun _ => 0) 0 120)))]) (tc := [(kc0, .char), (kc1, .object "java/lang/Object"), (kc2, .object "java/lang/Object"), (k2, .char)]) hP hD hK [0, 1, 5, 8, 10, 6, 4, 2, 3] [0, 3, 2, 1] rfl rfl rfl rfl ht9 hW9, by rw [ht9]; exact Nat.le_trans (Nat.add_le_add_left (Nat.le_of_ble_eq_true rfl) _) hG⟩⟩⟩, hS.F ht9⟩) hS.2.2 dX9_settledAll_223

set_option maxHeartbeats 4000000 in
set_option maxRecDepth 100000 in
theorem k77_restart (l : Launch) (hl9 : l.stackTraces = false) (dC : Nat → ClassId) (dI : Nat → Nat → Nat) (z : XZ) (h0 h1 h2 h3 h4 h5 : Nat) (o0 : Nat) (sz : Nat) (kc0 : ClassId) : Met l yX9_restart (.code yX9_restart cX9_restart 4 none :: wsL_law) ({ frames := 6, cells := 9, slots := 150, locals := 134 }) (va_Pc [.ref h0] (PC (dC, dI) [(h0, .inr (8, [.int 0, .ref h1, .ref h2, .ref o0, .ref h3, .int 0])), (h1, .inr (0, [.int 1, .ref h4, .int 1])), (h2, .inr (0, [.int 0, .ref z.1, .int 0])), (h3, .inr (0, [.int 0, .ref z.1, .int 0])), (h4, .inl (kc0, 10, .inr (.inr (.inr (.inr (va_up (fun _ => none) 0 (some h5))))))), (h5, .inr (7, [.int 105, .int 120, .int 0, .int (-1), .int 0, .int (-1)]))] [(kc0, .object "java/lang/Object")] sz z)) (va_Qv (fun (_ : Unit) => True) (fun (_ : Unit) (t : State) => ∃ (n0 : Nat), ∃ (m0 : ClassId), PG (dC, dI) [(h0, .inr (8, [.int 0, .ref h1, .ref h2, .ref o0, .ref h3, .int 0])), (h1, .inr (0, [.int 1, .ref h4, .int 1])), (h2, .inr (0, [.int 0, .ref z.1, .int 0])), (h3, .inr (0, [.int 2, .ref n0, .int 1])), (h4, .inl (kc0, 10, .inr (.inr (.inr (.inr (va_up (fun _ => none) 0 (some h5))))))), (h5, .inr (7, [.int 105, .int 120, .int 0, .int (-1), .int 0, .int (-1)])), (n0, .inl (m0, 10, .inr (.inr (.inr (.inr (va_up (fun _ => none) 0 (some (z.2.2.1 128))))))))] [(kc0, .object "java/lang/Object"), (m0, .object "java/lang/Object")] (va_A [(h0, .inr (8, [.int 0, .ref h1, .ref h2, .ref o0, .ref h3, .int 0])), (h1, .inr (0, [.int 1, .ref h4, .int 1])), (h2, .inr (0, [.int 0, .ref z.1, .int 0])), (h3, .inr (0, [.int 0, .ref z.1, .int 0])), (h4, .inl (kc0, 10, .inr (.inr (.inr (.inr (va_up (fun _ => none) 0 (some h5))))))), (h5, .inr (7, [.int 105, .int 120, .int 0, .int (-1), .int 0, .int (-1)]))] sz) sz 9 t) (va_A [(h0, .inr (8, [.int 0, .ref h1, .ref h2, .ref o0, .ref h3, .int 0])), (h1, .inr (0, [.int 1, .ref h4, .int 1])), (h2, .inr (0, [.int 0, .ref z.1, .int 0])), (h3, .inr (0, [.int 0, .ref z.1, .int 0])), (h4, .inl (kc0, 10, .inr (.inr (.inr (.inr (va_up (fun _ => none) 0 (some h5))))))), (h5, .inr (7, [.int 105, .int 120, .int 0, .int (-1), .int 0, .int (-1)]))] sz)) 9 150 (va_A [(h0, .inr (8, [.int 0, .ref h1, .ref h2, .ref o0, .ref h3, .int 0])), (h1, .inr (0, [.int 1, .ref h4, .int 1])), (h2, .inr (0, [.int 0, .ref z.1, .int 0])), (h3, .inr (0, [.int 0, .ref z.1, .int 0])), (h4, .inl (kc0, 10, .inr (.inr (.inr (.inr (va_up (fun _ => none) 0 (some h5))))))), (h5, .inr (7, [.int 105, .int 120, .int 0, .int (-1), .int 0, .int (-1)]))] sz) := by
  refine Met.ofW (cc := cX9_restart) (maxL := 4) (ret := none) (by decide) rfl ?_
  intro p e s m args below meth c s₁ B hml hv
  obtain ⟨rfl, hsz, hP, hK, hD0, hX, hT⟩ := hv
  have hx := B.exec
  have hb := B.bytes
  have hr := B.returns
  have hts0 := atoms_spec (ws := .code yX9_restart cX9_restart 4 none :: wsL_law) B.pre
  have hts := xTail hts0
  have hown : s.vm.findClass RX9 = some m.cls := findClass_of_methodNamed B.named
  have hlocks := B.notSynchronized
  subst hsz
  have hD := hD0.self (sz := s.heap.size)
  generalize hAe : va_A [(h0, .inr (8, [.int 0, .ref h1, .ref h2, .ref o0, .ref h3, .int 0])), (h1, .inr (0, [.int 1, .ref h4, .int 1])), (h2, .inr (0, [.int 0, .ref z.1, .int 0])), (h3, .inr (0, [.int 0, .ref z.1, .int 0])), (h4, .inl (kc0, 10, .inr (.inr (.inr (.inr (va_up (fun _ => none) 0 (some h5))))))), (h5, .inr (7, [.int 105, .int 120, .int 0, .int (-1), .int 0, .int (-1)]))] s.heap.size = A at hD hX ⊢
  have hA : ∀ q : Nat, s.heap.size ≤ q → A q := fun q h => by rw [← hAe]; exact Or.inr h
  have hS : va_S A s.heap s.heap [] := va_S.rf
  have hG : s.heap.size + 0 ≤ s.heap.size := Nat.le_refl _
  have hl := lv_entry ([.ref h0]) (n := 4) (Nat.le_of_ble_eq_true rfl)
  rw [lg_entry_eq]
  generalize (lg_sl ([.ref h0]) ++ List.replicate (4 - (lg_sl ([.ref h0])).length) Slot.unset).toArray = ls at hl ⊢
  have hl : lv_has ls 4 [(0, .ref h0)] := hl
  refine lv_aload_n hx hb dX9_restart_0 rfl (lv_at hl 0 rfl) ?_
  refine lv_iconst (v := 0) hx hb dX9_restart_1 (by decide) ?_
  refine va_put (D := (dC, dI)) (ci := 8) (v := .int 0) (ty := .int) (C := RX9) (T := TX9) (N := 6) hx hb hts in_X9 tyX9 tyX9_ok nmX9 hown hK hP hD (va_Sre hS) 0 rfl rfl 5 (by decide) (hts _ q_289) (fun _ h9 => h9) rfl (by decide +kernel) rfl rfl (Nat.le_of_ble_eq_true rfl) dX9_restart_2 (fun H1 _ hP hD hS' => ?_)
  have hG : s.heap.size + 0 ≤ H1.size := Nat.le_trans hG hS'.1
  have hS := va_Str hS hS'
  have hP : va_P (dC, dI) xCl [(h0, .inr (8, [.int 0, .ref h1, .ref h2, .ref o0, .ref h3, .int 0])), (h1, .inr (0, [.int 1, .ref h4, .int 1])), (h2, .inr (0, [.int 0, .ref z.1, .int 0])), (h3, .inr (0, [.int 0, .ref z.1, .int 0])), (h4, .inl (kc0, 10, .inr (.inr (.inr (.inr (va_up (fun _ => none) 0 (some h5))))))), (h5, .inr (7, [.int 105, .int 120, .int 0, .int (-1), .int 0, .int (-1)]))] H1 := hP
  have hD : va_D A [(h0, .inr (8, [.int 0, .ref h1, .ref h2, .ref o0, .ref h3, .int 0])), (h1, .inr (0, [.int 1, .ref h4, .int 1])), (h2, .inr (0, [.int 0, .ref z.1, .int 0])), (h3, .inr (0, [.int 0, .ref z.1, .int 0])), (h4, .inl (kc0, 10, .inr (.inr (.inr (.inr (va_up (fun _ => none) 0 (some h5))))))), (h5, .inr (7, [.int 105, .int 120, .int 0, .int (-1), .int 0, .int (-1)]))] := hD
  refine lv_aload_n hx hb dX9_restart_5 rfl (lv_at hl 0 rfl) ?_
  have hF2 := va_free (wc := [(h0, .inr (8, [.int 0, .ref h1, .ref h2, .ref o0, .ref h3, .int 0])), (h1, .inr (0, [.int 1, .ref h4, .int 1])), (h2, .inr (0, [.int 0, .ref z.1, .int 0])), (h3, .inr (0, [.int 0, .ref z.1, .int 0]))]) hD hS hA [0, 1, 2, 3] rfl
  refine va_callv (va_runV (As := []) (rest := []) ⟨hx, hb, hml, hown, hts⟩ (k61_putInOrder l hl9 dC dI z h0 h1 h2 h3 o0 h4 H1.size) (cwV 0 hts (gV q_299 q_300 q_301 q_60 q_298) rfl rfl rfl (by decide +kernel) ⟨Nat.le_of_ble_eq_true rfl, Nat.le_of_ble_eq_true rfl⟩) ⟨pc_blind, va_recv hK hP (ci := 8) (q0 := 0) rfl rfl, fun U hU hW => ⟨rfl, pc_mk hP hD hK hS hX hT [0, 1, 2, 3] [] rfl rfl rfl rfl hF2 hU hW⟩⟩ rfl rfl hl.1 rfl (lv_room (Nat.le_of_ble_eq_true rfl)) dX9_restart_6 ⟨(Nat.le_of_ble_eq_true rfl), (Nat.le_of_ble_eq_true rfl)⟩) hS (fun q9 _ h9 => hF2 q9 h9) hF2 (fun u4 t4 H4 L4 ht4 hvm4 hw4 hB4 hz4 hk4 hS => ?_)
  obtain ⟨a6, k7, hB4⟩ := hB4
  obtain ⟨hP, hD, hK⟩ := pq_join (wr := [(h4, .inl (kc0, 10, .inr (.inr (.inr (.inr (va_up (fun _ => none) 0 (some h5))))))), (h5, .inr (7, [.int 105, .int 120, .int 0, .int (-1), .int 0, .int (-1)]))]) (tr := [(kc0, .object "java/lang/Object")]) (wz := [(h4, .inl (kc0, 10, .inr (.inr (.inr (.inr (va_up (fun _ => none) 0 (some h5))))))), (h5, .inr (7, [.int 105, .int 120, .int 0, .int (-1), .int 0, .int (-1)])), (h0, .inr (8, [.int 0, .ref h1, .ref h2, .ref o0, .ref h3, .int 0])), (h1, .inr (0, [.int 1, .ref h4, .int 1])), (h2, .inr (0, [.int 0, .ref z.1, .int 0])), (h3, .inr (0, [.int 2, .ref a6, .int 1])), (a6, .inl (k7, 10, .inr (.inr (.inr (.inr (va_up (fun _ => none) 0 (some (z.2.2.1 128))))))))]) (tz := [(kc0, .object "java/lang/Object"), (k7, .object "java/lang/Object")]) hP hD hK [0, 1, 2, 3] [4, 5] [0] rfl rfl (by decide) (by decide) rfl hk4 hF2 hB4.1 ht4 hvm4 rfl rfl
  have hG : s.heap.size + 3 ≤ H4.size := va_gr (g := 0) (g1 := 3) hG (by rw [← ht4]; exact hB4.2)
  refine W.widen (k := 3) (n := 54) (by decide) (by decide) ?_
  refine lv_aload_n hx hb dX9_restart_9 rfl (lv_at hl 0 rfl) ?_
  refine va_get (D := (dC, dI)) (ci := 8) (v := .ref h1) (C := RX9) (T := TX9) (N := 6) hx hb hts in_X9 hown hK hP 2 rfl rfl 1 (by decide) (hts _ q_64) (fun _ h9 => h9) rfl dX9_restart_10 ?_
  have hF8 := va_free (wc := [(h1, .inr (0, [.int 1, .ref h4, .int 1]))]) hD hS hA [3] rfl
  refine va_callr (va_runV (As := []) (rest := []) ⟨hx, hb, hml, hown, hts⟩ (k63_iterator l hl9 dC dI z h1 h4 H4.size) (cwV 0 hts (gV q_256 q_257 q_258 q_12 q_255) rfl rfl rfl (by decide +kernel) ⟨Nat.le_of_ble_eq_true rfl, Nat.le_of_ble_eq_true rfl⟩) ⟨pc_blind, va_recv hK hP (ci := 0) (q0 := 3) rfl rfl, fun U hU hW => ⟨rfl, pc_mk hP hD hK hS hX hT [3] [] rfl rfl rfl rfl hF8 hU hW⟩⟩ rfl rfl hl.1 rfl (lv_room (Nat.le_of_ble_eq_true rfl)) dX9_restart_13 ⟨(Nat.le_of_ble_eq_true rfl), (Nat.le_of_ble_eq_true rfl)⟩) hS (fun q9 _ h9 => hF8 q9 h9) hF8 (fun u10 r11 t10 H10 L10 ht10 hvm10 hw10 hB10 hz10 hk10 hS => ?_)
  obtain ⟨a12, hr10, hB10⟩ := hB10
  obtain ⟨hP, hD, hK⟩ := pq_join (wr := [(h4, .inl (kc0, 10, .inr (.inr (.inr (.inr (va_up (fun _ => none) 0 (some h5))))))), (h5, .inr (7, [.int 105, .int 120, .int 0, .int (-1), .int 0, .int (-1)])), (h0, .inr (8, [.int 0, .ref h1, .ref h2, .ref o0, .ref h3, .int 0])), (h2, .inr (0, [.int 0, .ref z.1, .int 0])), (h3, .inr (0, [.int 2, .ref a6, .int 1])), (a6, .inl (k7, 10, .inr (.inr (.inr (.inr (va_up (fun _ => none) 0 (some (z.2.2.1 128))))))))]) (tr := [(kc0, .object "java/lang/Object"), (k7, .object "java/lang/Object")]) (wz := [(h4, .inl (kc0, 10, .inr (.inr (.inr (.inr (va_up (fun _ => none) 0 (some h5))))))), (h5, .inr (7, [.int 105, .int 120, .int 0, .int (-1), .int 0, .int (-1)])), (h0, .inr (8, [.int 0, .ref h1, .ref h2, .ref o0, .ref h3, .int 0])), (h2, .inr (0, [.int 0, .ref z.1, .int 0])), (h3, .inr (0, [.int 2, .ref a6, .int 1])), (a6, .inl (k7, 10, .inr (.inr (.inr (.inr (va_up (fun _ => none) 0 (some (z.2.2.1 128)))))))), (h1, .inr (0, [.int 1, .ref h4, .int 1])), (a12, .inr (1, [.int 0, .int (-1), .int 1, .ref h1]))]) (tz := [(kc0, .object "java/lang/Object"), (k7, .object "java/lang/Object")]) hP hD hK [3] [0, 1, 2, 4, 5, 6] [0, 1] rfl rfl (by decide) (by decide) rfl hk10 hF8 hB10.1 ht10 hvm10 rfl rfl
  have hG : s.heap.size + 4 ≤ H10.size := va_gr (g := 3) (g1 := 1) hG (by rw [← ht10]; exact hB10.2)
  refine W.eq (g2 := F0 m 16 ls [.ref a12]) (by rw [hr10]) ?_
  refine W.widen (k := 4) (n := 58) (by decide) (by decide) ?_
  refine lv_astore_n (lv' := [(1, .ref a12), (0, .ref h0)]) hx hb dX9_restart_16 rfl hl (by decide) rfl (fun ls hl => ?_)
  refine lv_aload_n hx hb dX9_restart_17 rfl (lv_at hl 0 rfl) ?_
  have hF13 := va_free (wc := [(a12, .inr (1, [.int 0, .int (-1), .int 1, .ref h1])), (h1, .inr (0, [.int 1, .ref h4, .int 1]))]) hD hS hA [7, 6] rfl
  refine va_callFi (va_runF (As := []) (rest := []) (hK.1 1 _ rfl).2 ⟨hx, hb, hml, hown, hts⟩ (k64_hasNext l hl9 dC dI z a12 h1 h4 H10.size) (va_cwF 0 hts (gF q_261 q_262 q_263 q_246 q_260) rfl rfl rfl hT.2.2.2.2.2.2.1 (by decide +kernel) ⟨Nat.le_of_ble_eq_true rfl, Nat.le_of_ble_eq_true rfl⟩) ⟨pc_blind, va_recv hK hP (ci := 1) (q0 := 7) rfl rfl, fun U hU hW => ⟨rfl, pc_mk hP hD hK hS hX hT [7, 6] [] rfl rfl rfl rfl hF13 hU hW⟩⟩ rfl rfl hl.1 rfl (lv_room (Nat.le_of_ble_eq_true rfl)) dX9_restart_18 ⟨(Nat.le_of_ble_eq_true rfl), (Nat.le_of_ble_eq_true rfl)⟩) hS (fun q9 _ h9 => hF13 q9 h9) hF13 (fun r16 u15 t15 H15 L15 ht15 hvm15 hw15 hB15 hz15 hk15 hS => ?_)
  obtain ⟨hP, hD, hK⟩ := pq_join (wr := [(h4, .inl (kc0, 10, .inr (.inr (.inr (.inr (va_up (fun _ => none) 0 (some h5))))))), (h5, .inr (7, [.int 105, .int 120, .int 0, .int (-1), .int 0, .int (-1)])), (h0, .inr (8, [.int 0, .ref h1, .ref h2, .ref o0, .ref h3, .int 0])), (h2, .inr (0, [.int 0, .ref z.1, .int 0])), (h3, .inr (0, [.int 2, .ref a6, .int 1])), (a6, .inl (k7, 10, .inr (.inr (.inr (.inr (va_up (fun _ => none) 0 (some (z.2.2.1 128))))))))]) (tr := [(kc0, .object "java/lang/Object"), (k7, .object "java/lang/Object")]) (wz := [(h4, .inl (kc0, 10, .inr (.inr (.inr (.inr (va_up (fun _ => none) 0 (some h5))))))), (h5, .inr (7, [.int 105, .int 120, .int 0, .int (-1), .int 0, .int (-1)])), (h0, .inr (8, [.int 0, .ref h1, .ref h2, .ref o0, .ref h3, .int 0])), (h2, .inr (0, [.int 0, .ref z.1, .int 0])), (h3, .inr (0, [.int 2, .ref a6, .int 1])), (a6, .inl (k7, 10, .inr (.inr (.inr (.inr (va_up (fun _ => none) 0 (some (z.2.2.1 128)))))))), (a12, .inr (1, [.int 0, .int (-1), .int 1, .ref h1])), (h1, .inr (0, [.int 1, .ref h4, .int 1]))]) (tz := [(kc0, .object "java/lang/Object"), (k7, .object "java/lang/Object")]) hP hD hK [7, 6] [0, 1, 2, 3, 4, 5] [0, 1] rfl rfl (by decide) (by decide) rfl hk15 hF13 hB15.1 ht15 hvm15 rfl rfl
  have hG : s.heap.size + 4 ≤ H15.size := Nat.le_trans hG hz15
  refine W.eq (g2 := F0 m 23 ls [.int 1]) (by rw [hw15]) ?_
  refine lv_if_eq (tgt := 55) hx hb dX9_restart_23 (by decide) (fun cz => absurd cz (by decide)) (fun _ => ?_)
  refine lv_aload_n hx hb dX9_restart_26 rfl (lv_at hl 0 rfl) ?_
  have hF17 := va_free (wc := [(a12, .inr (1, [.int 0, .int (-1), .int 1, .ref h1])), (h1, .inr (0, [.int 1, .ref h4, .int 1])), (h4, .inl (kc0, 10, .inr (.inr (.inr (.inr (va_up (fun _ => none) 0 (some h5)))))))]) hD hS hA [6, 7, 0] rfl
  refine va_callFr (va_runF (As := []) (rest := []) (hK.1 1 _ rfl).2 ⟨hx, hb, hml, hown, hts⟩ (k66_next l hl9 dC dI z a12 h1 h4 h5 H15.size kc0) (va_cwF 0 hts (gF q_308 q_309 q_310 q_246 q_307) rfl rfl rfl hT.2.2.2.2.2.2.2.1 (by decide +kernel) ⟨Nat.le_of_ble_eq_true rfl, Nat.le_of_ble_eq_true rfl⟩) ⟨pc_blind, va_recv hK hP (ci := 1) (q0 := 6) rfl rfl, fun U hU hW => ⟨rfl, pc_mk hP hD hK hS hX hT [6, 7, 0] [0] rfl rfl rfl rfl hF17 hU hW⟩⟩ rfl rfl hl.1 rfl (lv_room (Nat.le_of_ble_eq_true rfl)) dX9_restart_27 ⟨(Nat.le_of_ble_eq_true rfl), (Nat.le_of_ble_eq_true rfl)⟩) hS (fun q9 _ h9 => hF17 q9 h9) hF17 (fun u19 r20 t19 H19 L19 ht19 hvm19 hw19 hB19 hz19 hk19 hS => ?_)
  obtain ⟨hr19, hB19⟩ := hB19
  obtain ⟨hP, hD, hK⟩ := pq_join (wr := [(h5, .inr (7, [.int 105, .int 120, .int 0, .int (-1), .int 0, .int (-1)])), (h0, .inr (8, [.int 0, .ref h1, .ref h2, .ref o0, .ref h3, .int 0])), (h2, .inr (0, [.int 0, .ref z.1, .int 0])), (h3, .inr (0, [.int 2, .ref a6, .int 1])), (a6, .inl (k7, 10, .inr (.inr (.inr (.inr (va_up (fun _ => none) 0 (some (z.2.2.1 128))))))))]) (tr := [(k7, .object "java/lang/Object")]) (wz := [(h5, .inr (7, [.int 105, .int 120, .int 0, .int (-1), .int 0, .int (-1)])), (h0, .inr (8, [.int 0, .ref h1, .ref h2, .ref o0, .ref h3, .int 0])), (h2, .inr (0, [.int 0, .ref z.1, .int 0])), (h3, .inr (0, [.int 2, .ref a6, .int 1])), (a6, .inl (k7, 10, .inr (.inr (.inr (.inr (va_up (fun _ => none) 0 (some (z.2.2.1 128)))))))), (a12, .inr (1, [.int 1, .int 0, .int 1, .ref h1])), (h1, .inr (0, [.int 1, .ref h4, .int 1])), (h4, .inl (kc0, 10, .inr (.inr (.inr (.inr (va_up (fun _ => none) 0 (some h5)))))))]) (tz := [(k7, .object "java/lang/Object"), (kc0, .object "java/lang/Object")]) hP hD hK [6, 7, 0] [1, 2, 3, 4, 5] [1] rfl rfl (by decide) (by decide) rfl hk19 hF17 hB19.1 ht19 hvm19 rfl rfl
  have hG : s.heap.size + 4 ≤ H19.size := Nat.le_trans hG hz19
  refine W.eq (g2 := F0 m 32 ls [.ref h5]) (by rw [hr19]) ?_
  refine va_castE (nm := RX8) hx hb hown (hts _ q_273) (va_recv hK hP (ci := 7) (q0 := 0) rfl rfl) dX9_restart_32 ?_
  refine lv_astore_n (lv' := [(2, .ref h5), (1, .ref a12), (0, .ref h0)]) hx hb dX9_restart_35 rfl hl (by decide) rfl (fun ls hl => ?_)
  refine lv_aload_n hx hb dX9_restart_36 rfl (lv_at hl 0 rfl) ?_
  refine lv_bipush (v := 120) hx hb dX9_restart_37 (by decide) ?_
  refine va_put (D := (dC, dI)) (ci := 7) (v := .int 120) (ty := .char) (C := RX8) (T := TX8) (N := 6) hx hb hts in_X8 tyX8 tyX8_ok nmX8 hown hK hP hD (va_Sre hS) 0 rfl rfl 1 (by decide) (hts _ q_311) (fun _ h9 => h9) rfl (by decide +kernel) rfl rfl (Nat.le_of_ble_eq_true rfl) dX9_restart_39 (fun H21 _ hP hD hS' => ?_)
  have hG : s.heap.size + 4 ≤ H21.size := Nat.le_trans hG hS'.1
  have hS := va_Str hS hS'
  have hP : va_P (dC, dI) xCl [(h5, .inr (7, [.int 105, .int 120, .int 0, .int (-1), .int 0, .int (-1)])), (h0, .inr (8, [.int 0, .ref h1, .ref h2, .ref o0, .ref h3, .int 0])), (h2, .inr (0, [.int 0, .ref z.1, .int 0])), (h3, .inr (0, [.int 2, .ref a6, .int 1])), (a6, .inl (k7, 10, .inr (.inr (.inr (.inr (va_up (fun _ => none) 0 (some (z.2.2.1 128)))))))), (a12, .inr (1, [.int 1, .int 0, .int 1, .ref h1])), (h1, .inr (0, [.int 1, .ref h4, .int 1])), (h4, .inl (kc0, 10, .inr (.inr (.inr (.inr (va_up (fun _ => none) 0 (some h5)))))))] H21 := hP
  have hD : va_D A [(h5, .inr (7, [.int 105, .int 120, .int 0, .int (-1), .int 0, .int (-1)])), (h0, .inr (8, [.int 0, .ref h1, .ref h2, .ref o0, .ref h3, .int 0])), (h2, .inr (0, [.int 0, .ref z.1, .int 0])), (h3, .inr (0, [.int 2, .ref a6, .int 1])), (a6, .inl (k7, 10, .inr (.inr (.inr (.inr (va_up (fun _ => none) 0 (some (z.2.2.1 128)))))))), (a12, .inr (1, [.int 1, .int 0, .int 1, .ref h1])), (h1, .inr (0, [.int 1, .ref h4, .int 1])), (h4, .inl (kc0, 10, .inr (.inr (.inr (.inr (va_up (fun _ => none) 0 (some h5)))))))] := hD
  refine lv_aload_n hx hb dX9_restart_42 rfl (lv_at hl 0 rfl) ?_
  refine lv_iconst (v := 0) hx hb dX9_restart_43 (by decide) ?_
  refine va_put (D := (dC, dI)) (ci := 7) (v := .int 0) (ty := .int) (C := RX8) (T := TX8) (N := 6) hx hb hts in_X8 tyX8 tyX8_ok nmX8 hown hK hP hD (va_Sre hS) 0 rfl rfl 2 (by decide) (hts _ q_312) (fun _ h9 => h9) rfl (by decide +kernel) rfl rfl (Nat.le_of_ble_eq_true rfl) dX9_restart_44 (fun H22 _ hP hD hS' => ?_)
  have hG : s.heap.size + 4 ≤ H22.size := Nat.le_trans hG hS'.1
  have hS := va_Str hS hS'
  have hP : va_P (dC, dI) xCl [(h5, .inr (7, [.int 105, .int 120, .int 0, .int (-1), .int 0, .int (-1)])), (h0, .inr (8, [.int 0, .ref h1, .ref h2, .ref o0, .ref h3, .int 0])), (h2, .inr (0, [.int 0, .ref z.1, .int 0])), (h3, .inr (0, [.int 2, .ref a6, .int 1])), (a6, .inl (k7, 10, .inr (.inr (.inr (.inr (va_up (fun _ => none) 0 (some (z.2.2.1 128)))))))), (a12, .inr (1, [.int 1, .int 0, .int 1, .ref h1])), (h1, .inr (0, [.int 1, .ref h4, .int 1])), (h4, .inl (kc0, 10, .inr (.inr (.inr (.inr (va_up (fun _ => none) 0 (some h5)))))))] H22 := hP
  have hD : va_D A [(h5, .inr (7, [.int 105, .int 120, .int 0, .int (-1), .int 0, .int (-1)])), (h0, .inr (8, [.int 0, .ref h1, .ref h2, .ref o0, .ref h3, .int 0])), (h2, .inr (0, [.int 0, .ref z.1, .int 0])), (h3, .inr (0, [.int 2, .ref a6, .int 1])), (a6, .inl (k7, 10, .inr (.inr (.inr (.inr (va_up (fun _ => none) 0 (some (z.2.2.1 128)))))))), (a12, .inr (1, [.int 1, .int 0, .int 1, .ref h1])), (h1, .inr (0, [.int 1, .ref h4, .int 1])), (h4, .inl (kc0, 10, .inr (.inr (.inr (.inr (va_up (fun _ => none) 0 (some h5)))))))] := hD
  refine lv_aload_n hx hb dX9_restart_47 rfl (lv_at hl 0 rfl) ?_
  refine lv_iconst (v := (-1)) hx hb dX9_restart_48 (by decide) ?_
  refine va_put (D := (dC, dI)) (ci := 7) (v := .int (-1)) (ty := .int) (C := RX8) (T := TX8) (N := 6) hx hb hts in_X8 tyX8 tyX8_ok nmX8 hown hK hP hD (va_Sre hS) 0 rfl rfl 3 (by decide) (hts _ q_313) (fun _ h9 => h9) rfl (by decide +kernel) rfl rfl (Nat.le_of_ble_eq_true rfl) dX9_restart_49 (fun H23 _ hP hD hS' => ?_)
  have hG : s.heap.size + 4 ≤ H23.size := Nat.le_trans hG hS'.1
  have hS := va_Str hS hS'
  have hP : va_P (dC, dI) xCl [(h5, .inr (7, [.int 105, .int 120, .int 0, .int (-1), .int 0, .int (-1)])), (h0, .inr (8, [.int 0, .ref h1, .ref h2, .ref o0, .ref h3, .int 0])), (h2, .inr (0, [.int 0, .ref z.1, .int 0])), (h3, .inr (0, [.int 2, .ref a6, .int 1])), (a6, .inl (k7, 10, .inr (.inr (.inr (.inr (va_up (fun _ => none) 0 (some (z.2.2.1 128)))))))), (a12, .inr (1, [.int 1, .int 0, .int 1, .ref h1])), (h1, .inr (0, [.int 1, .ref h4, .int 1])), (h4, .inl (kc0, 10, .inr (.inr (.inr (.inr (va_up (fun _ => none) 0 (some h5)))))))] H23 := hP
  have hD : va_D A [(h5, .inr (7, [.int 105, .int 120, .int 0, .int (-1), .int 0, .int (-1)])), (h0, .inr (8, [.int 0, .ref h1, .ref h2, .ref o0, .ref h3, .int 0])), (h2, .inr (0, [.int 0, .ref z.1, .int 0])), (h3, .inr (0, [.int 2, .ref a6, .int 1])), (a6, .inl (k7, 10, .inr (.inr (.inr (.inr (va_up (fun _ => none) 0 (some (z.2.2.1 128)))))))), (a12, .inr (1, [.int 1, .int 0, .int 1, .ref h1])), (h1, .inr (0, [.int 1, .ref h4, .int 1])), (h4, .inl (kc0, 10, .inr (.inr (.inr (.inr (va_up (fun _ => none) 0 (some h5)))))))] := hD
  refine lv_goto (tgt := 17) hx hb dX9_restart_52 (by decide) ?_
  refine lv_aload_n hx hb dX9_restart_17 rfl (lv_at hl 1 rfl) ?_
  have hF24 := va_free (wc := [(a12, .inr (1, [.int 1, .int 0, .int 1, .ref h1])), (h1, .inr (0, [.int 1, .ref h4, .int 1]))]) hD hS hA [5, 6] rfl
  refine va_callFi (va_runF (As := []) (rest := []) (hK.1 1 _ rfl).2 ⟨hx, hb, hml, hown, hts⟩ (k67_hasNext l hl9 dC dI z a12 h1 h4 H23.size) (va_cwF 0 hts (gF q_261 q_262 q_263 q_246 q_260) rfl rfl rfl hT.2.2.2.2.2.2.1 (by decide +kernel) ⟨Nat.le_of_ble_eq_true rfl, Nat.le_of_ble_eq_true rfl⟩) ⟨pc_blind, va_recv hK hP (ci := 1) (q0 := 5) rfl rfl, fun U hU hW => ⟨rfl, pc_mk hP hD hK hS hX hT [5, 6] [] rfl rfl rfl rfl hF24 hU hW⟩⟩ rfl rfl hl.1 rfl (lv_room (Nat.le_of_ble_eq_true rfl)) dX9_restart_18 ⟨(Nat.le_of_ble_eq_true rfl), (Nat.le_of_ble_eq_true rfl)⟩) hS (fun q9 _ h9 => hF24 q9 h9) hF24 (fun r27 u26 t26 H26 L26 ht26 hvm26 hw26 hB26 hz26 hk26 hS => ?_)
  obtain ⟨hP, hD, hK⟩ := pq_join (wr := [(h5, .inr (7, [.int 105, .int 120, .int 0, .int (-1), .int 0, .int (-1)])), (h0, .inr (8, [.int 0, .ref h1, .ref h2, .ref o0, .ref h3, .int 0])), (h2, .inr (0, [.int 0, .ref z.1, .int 0])), (h3, .inr (0, [.int 2, .ref a6, .int 1])), (a6, .inl (k7, 10, .inr (.inr (.inr (.inr (va_up (fun _ => none) 0 (some (z.2.2.1 128)))))))), (h4, .inl (kc0, 10, .inr (.inr (.inr (.inr (va_up (fun _ => none) 0 (some h5)))))))]) (tr := [(k7, .object "java/lang/Object"), (kc0, .object "java/lang/Object")]) (wz := [(h5, .inr (7, [.int 105, .int 120, .int 0, .int (-1), .int 0, .int (-1)])), (h0, .inr (8, [.int 0, .ref h1, .ref h2, .ref o0, .ref h3, .int 0])), (h2, .inr (0, [.int 0, .ref z.1, .int 0])), (h3, .inr (0, [.int 2, .ref a6, .int 1])), (a6, .inl (k7, 10, .inr (.inr (.inr (.inr (va_up (fun _ => none) 0 (some (z.2.2.1 128)))))))), (h4, .inl (kc0, 10, .inr (.inr (.inr (.inr (va_up (fun _ => none) 0 (some h5))))))), (a12, .inr (1, [.int 1, .int 0, .int 1, .ref h1])), (h1, .inr (0, [.int 1, .ref h4, .int 1]))]) (tz := [(k7, .object "java/lang/Object"), (kc0, .object "java/lang/Object")]) hP hD hK [5, 6] [0, 1, 2, 3, 4, 7] [0, 1] rfl rfl (by decide) (by decide) rfl hk26 hF24 hB26.1 ht26 hvm26 rfl rfl
  have hG : s.heap.size + 4 ≤ H26.size := Nat.le_trans hG hz26
  refine W.eq (g2 := F0 m 23 ls [.int 0]) (by rw [hw26]) ?_
  refine lv_if_eq (tgt := 55) hx hb dX9_restart_23 (by decide) (fun _ => ?_) (fun cz => absurd (by decide) cz)
  refine lv_aload_n hx hb dX9_restart_55 rfl (lv_at hl 2 rfl) ?_
  refine lv_aload_n hx hb dX9_restart_56 rfl (lv_at hl 2 rfl) ?_
  have hF28 := va_free (wc := [(h0, .inr (8, [.int 0, .ref h1, .ref h2, .ref o0, .ref h3, .int 0])), (h1, .inr (0, [.int 1, .ref h4, .int 1])), (h4, .inl (kc0, 10, .inr (.inr (.inr (.inr (va_up (fun _ => none) 0 (some h5))))))), (h5, .inr (7, [.int 105, .int 120, .int 0, .int (-1), .int 0, .int (-1)]))]) hD hS hA [1, 7, 5, 0] rfl
  refine va_callr (va_runV (As := []) (rest := [.ref h0]) ⟨hx, hb, hml, hown, hts⟩ (k68_valuesNow l hl9 dC dI z h0 h1 h4 h5 h2 o0 h3 H26.size kc0) (cwV 0 hts (gV q_317 q_318 q_319 q_60 q_316) rfl rfl rfl (by decide +kernel) ⟨Nat.le_of_ble_eq_true rfl, Nat.le_of_ble_eq_true rfl⟩) ⟨pc_blind, va_recv hK hP (ci := 8) (q0 := 1) rfl rfl, fun U hU hW => ⟨rfl, pc_mk hP hD hK hS hX hT [1, 7, 5, 0] [1] rfl rfl rfl rfl hF28 hU hW⟩⟩ rfl rfl hl.1 rfl (lv_room (Nat.le_of_ble_eq_true rfl)) dX9_restart_57 ⟨(Nat.le_of_ble_eq_true rfl), (Nat.le_of_ble_eq_true rfl)⟩) hS (fun q9 _ h9 => hF28 q9 h9) hF28 (fun u30 r31 t30 H30 L30 ht30 hvm30 hw30 hB30 hz30 hk30 hS => ?_)
  obtain ⟨a32, k33, hr30, hB30⟩ := hB30
  obtain ⟨hP, hD, hK⟩ := pq_join (wr := [(h2, .inr (0, [.int 0, .ref z.1, .int 0])), (h3, .inr (0, [.int 2, .ref a6, .int 1])), (a6, .inl (k7, 10, .inr (.inr (.inr (.inr (va_up (fun _ => none) 0 (some (z.2.2.1 128)))))))), (a12, .inr (1, [.int 1, .int 0, .int 1, .ref h1]))]) (tr := [(k7, .object "java/lang/Object")]) (wz := [(h2, .inr (0, [.int 0, .ref z.1, .int 0])), (h3, .inr (0, [.int 2, .ref a6, .int 1])), (a6, .inl (k7, 10, .inr (.inr (.inr (.inr (va_up (fun _ => none) 0 (some (z.2.2.1 128)))))))), (a12, .inr (1, [.int 1, .int 0, .int 1, .ref h1])), (h0, .inr (8, [.int 0, .ref h1, .ref h2, .ref o0, .ref h3, .int 0])), (h1, .inr (0, [.int 1, .ref h4, .int 1])), (h4, .inl (kc0, 10, .inr (.inr (.inr (.inr (va_up (fun _ => none) 0 (some h5))))))), (h5, .inr (7, [.int 105, .int 120, .int 0, .int (-1), .int 0, .int (-1)])), (a32, .inl (k33, 40, .inl (upd (fun _ => 0) 0 120)))]) (tz := [(k7, .object "java/lang/Object"), (kc0, .object "java/lang/Object"), (k33, .char)]) hP hD hK [1, 7, 5, 0] [2, 3, 4, 6] [0] rfl rfl (by decide) (by decide) rfl hk30 hF28 hB30.1 ht30 hvm30 rfl rfl
  have hG : s.heap.size + 5 ≤ H30.size := va_gr (g := 4) (g1 := 1) hG (by rw [← ht30]; exact hB30.2)
  refine W.eq (g2 := F0 m 60 ls [.ref a32, .ref h0]) (by rw [hr30]) ?_
  refine W.widen (k := 5) (n := 98) (by decide) (by decide) ?_
  refine lv_iconst (v := (-1)) hx hb dX9_restart_60 (by decide) ?_
  refine lv_bipush (v := 120) hx hb dX9_restart_61 (by decide) ?_
  have hF34 := va_free (wc := [(h0, .inr (8, [.int 0, .ref h1, .ref h2, .ref o0, .ref h3, .int 0])), (a32, .inl (k33, 40, .inl (upd (fun _ => 0) 0 120))), (h1, .inr (0, [.int 1, .ref h4, .int 1])), (h2, .inr (0, [.int 0, .ref z.1, .int 0])), (h3, .inr (0, [.int 2, .ref a6, .int 1])), (h4, .inl (kc0, 10, .inr (.inr (.inr (.inr (va_up (fun _ => none) 0 (some h5))))))), (a6, .inl (k7, 10, .inr (.inr (.inr (.inr (va_up (fun _ => none) 0 (some (z.2.2.1 128)))))))), (h5, .inr (7, [.int 105, .int 120, .int 0, .int (-1), .int 0, .int (-1)]))]) hD hS hA [4, 8, 5, 0, 1, 6, 2, 7] rfl
  refine va_callr (va_runV (As := [.ref a32, .int (-1), .int 120]) (rest := []) ⟨hx, hb, hml, hown, hts⟩ (k76_settledAll l hl9 dC dI z h0 a32 h1 h2 h3 h4 a6 h5 o0 H30.size k33 kc0 k7) (cwV 3 hts (gV q_328 q_329 q_330 q_60 q_327) rfl rfl rfl (by decide +kernel) ⟨Nat.le_of_ble_eq_true rfl, Nat.le_of_ble_eq_true rfl⟩) ⟨pc_blind, va_recv hK hP (ci := 8) (q0 := 4) rfl rfl, fun U hU hW => ⟨rfl, pc_mk hP hD hK hS hX hT [4, 8, 5, 0, 1, 6, 2, 7] [2, 1, 0] rfl rfl rfl rfl hF34 hU hW⟩⟩ rfl rfl hl.1 rfl (lv_room (Nat.le_of_ble_eq_true rfl)) dX9_restart_63 ⟨(Nat.le_of_ble_eq_true rfl), (Nat.le_of_ble_eq_true rfl)⟩) hS (fun q9 _ h9 => hF34 q9 h9) hF34 (fun u36 r37 t36 H36 L36 ht36 hvm36 hw36 hB36 hz36 hk36 hS => ?_)
  obtain ⟨a38, k39, hr36, hB36⟩ := hB36
  obtain ⟨hP, hD, hK⟩ := pq_join (wr := [(a12, .inr (1, [.int 1, .int 0, .int 1, .ref h1]))]) (tr := []) (wz := [(a12, .inr (1, [.int 1, .int 0, .int 1, .ref h1])), (h0, .inr (8, [.int 0, .ref h1, .ref h2, .ref o0, .ref h3, .int 0])), (a32, .inl (k33, 40, .inl (upd (fun _ => 0) 0 120))), (h1, .inr (0, [.int 1, .ref h4, .int 1])), (h2, .inr (0, [.int 0, .ref z.1, .int 0])), (h3, .inr (0, [.int 2, .ref a6, .int 1])), (h4, .inl (kc0, 10, .inr (.inr (.inr (.inr (va_up (fun _ => none) 0 (some h5))))))), (a6, .inl (k7, 10, .inr (.inr (.inr (.inr (va_up (fun _ => none) 0 (some (z.2.2.1 128)))))))), (h5, .inr (7, [.int 105, .int 120, .int 0, .int (-1), .int 0, .int (-1)])), (a38, .inl (k39, 40, .inl (upd (fun _ => 0) 0 120)))]) (tz := [(k33, .char), (kc0, .object "java/lang/Object"), (k7, .object "java/lang/Object"), (k39, .char)]) hP hD hK [4, 8, 5, 0, 1, 6, 2, 7] [3] [] rfl rfl (by decide) (by decide) rfl hk36 hF34 hB36.1 ht36 hvm36 rfl rfl
  have hG : s.heap.size + 8 ≤ H36.size := va_gr (g := 5) (g1 := 3) hG (by rw [← ht36]; exact hB36.2)
  refine W.eq (g2 := F0 m 66 ls [.ref a38]) (by rw [hr36]) ?_
  refine W.widen (k := 8) (n := 146) (by decide) (by decide) ?_
  refine lv_astore_n (lv' := [(1, .ref a38), (2, .ref h5), (0, .ref h0)]) hx hb dX9_restart_66 rfl hl (by decide) rfl (fun ls hl => ?_)
  refine lv_iconst (v := 0) hx hb dX9_restart_67 (by decide) ?_
  refine lv_istore_n (lv' := [(2, .int 0), (1, .ref a38), (0, .ref h0)]) hx hb dX9_restart_68 rfl hl (by decide) rfl (fun ls hl => ?_)
  refine lv_iload_n hx hb dX9_restart_69 rfl (lv_at hl 0 rfl) ?_
  refine lv_aload_n hx hb dX9_restart_70 rfl (lv_at hl 2 rfl) ?_
  refine va_get (D := (dC, dI)) (ci := 8) (v := .ref h1) (C := RX9) (T := TX9) (N := 6) hx hb hts in_X9 hown hK hP 1 rfl rfl 1 (by decide) (hts _ q_64) (fun _ h9 => h9) rfl dX9_restart_71 ?_
  have hF40 := va_free (wc := [(h1, .inr (0, [.int 1, .ref h4, .int 1]))]) hD hS hA [3] rfl
  refine va_calli (va_runV (As := []) (rest := [.int 0]) ⟨hx, hb, hml, hown, hts⟩ (k20_size l hl9 dC dI z h1 h4 H36.size 1 1) (cwV 0 hts (gV q_272 q_77 q_78 q_12 q_75) rfl rfl rfl (by decide +kernel) ⟨Nat.le_of_ble_eq_true rfl, Nat.le_of_ble_eq_true rfl⟩) ⟨pc_blind, va_recv hK hP (ci := 0) (q0 := 3) rfl rfl, fun U hU hW => ⟨rfl, pc_mk hP hD hK hS hX hT [3] [] rfl rfl rfl rfl hF40 hU hW⟩⟩ rfl rfl hl.1 rfl (lv_room (Nat.le_of_ble_eq_true rfl)) dX9_restart_74 ⟨(Nat.le_of_ble_eq_true rfl), (Nat.le_of_ble_eq_true rfl)⟩) hS (fun q9 _ h9 => hF40 q9 h9) hF40 (fun r43 u42 t42 H42 L42 ht42 hvm42 hw42 hB42 hz42 hk42 hS => ?_)
  obtain ⟨hP, hD, hK⟩ := pq_join (wr := [(a12, .inr (1, [.int 1, .int 0, .int 1, .ref h1])), (h0, .inr (8, [.int 0, .ref h1, .ref h2, .ref o0, .ref h3, .int 0])), (a32, .inl (k33, 40, .inl (upd (fun _ => 0) 0 120))), (h2, .inr (0, [.int 0, .ref z.1, .int 0])), (h3, .inr (0, [.int 2, .ref a6, .int 1])), (h4, .inl (kc0, 10, .inr (.inr (.inr (.inr (va_up (fun _ => none) 0 (some h5))))))), (a6, .inl (k7, 10, .inr (.inr (.inr (.inr (va_up (fun _ => none) 0 (some (z.2.2.1 128)))))))), (h5, .inr (7, [.int 105, .int 120, .int 0, .int (-1), .int 0, .int (-1)])), (a38, .inl (k39, 40, .inl (upd (fun _ => 0) 0 120)))]) (tr := [(k33, .char), (kc0, .object "java/lang/Object"), (k7, .object "java/lang/Object"), (k39, .char)]) (wz := [(a12, .inr (1, [.int 1, .int 0, .int 1, .ref h1])), (h0, .inr (8, [.int 0, .ref h1, .ref h2, .ref o0, .ref h3, .int 0])), (a32, .inl (k33, 40, .inl (upd (fun _ => 0) 0 120))), (h2, .inr (0, [.int 0, .ref z.1, .int 0])), (h3, .inr (0, [.int 2, .ref a6, .int 1])), (h4, .inl (kc0, 10, .inr (.inr (.inr (.inr (va_up (fun _ => none) 0 (some h5))))))), (a6, .inl (k7, 10, .inr (.inr (.inr (.inr (va_up (fun _ => none) 0 (some (z.2.2.1 128)))))))), (h5, .inr (7, [.int 105, .int 120, .int 0, .int (-1), .int 0, .int (-1)])), (a38, .inl (k39, 40, .inl (upd (fun _ => 0) 0 120))), (h1, .inr (0, [.int 1, .ref h4, .int 1]))]) (tz := [(k33, .char), (kc0, .object "java/lang/Object"), (k7, .object "java/lang/Object"), (k39, .char)]) hP hD hK [3] [0, 1, 2, 4, 5, 6, 7, 8, 9] [0, 1, 2, 3] rfl rfl (by decide) (by decide) rfl hk42 hF40 hB42.1 ht42 hvm42 rfl rfl
  have hG : s.heap.size + 8 ≤ H42.size := Nat.le_trans hG hz42
  refine W.eq (g2 := F0 m 77 ls [.int 1, .int 0]) (by rw [hw42]) ?_
  refine lv_icmp_ge (tgt := 103) hx hb dX9_restart_77 (by decide) (fun cz => absurd cz (by decide)) (fun _ => ?_)
  refine lv_aload_n hx hb dX9_restart_80 rfl (lv_at hl 2 rfl) ?_
  refine va_get (D := (dC, dI)) (ci := 8) (v := .ref h1) (C := RX9) (T := TX9) (N := 6) hx hb hts in_X9 hown hK hP 1 rfl rfl 1 (by decide) (hts _ q_64) (fun _ h9 => h9) rfl dX9_restart_81 ?_
  refine lv_iload_n hx hb dX9_restart_84 rfl (lv_at hl 0 rfl) ?_
  have hF44 := va_free (wc := [(h1, .inr (0, [.int 1, .ref h4, .int 1])), (h4, .inl (kc0, 10, .inr (.inr (.inr (.inr (va_up (fun _ => none) 0 (some h5)))))))]) hD hS hA [9, 5] rfl
  refine va_callr (va_runV (As := [.int 0]) (rest := []) ⟨hx, hb, hml, hown, hts⟩ (k24_get l hl9 dC dI z h1 h4 h5 H42.size kc0) (cwV 1 hts (gV q_315 q_157 q_158 q_12 q_155) rfl rfl rfl (by decide +kernel) ⟨Nat.le_of_ble_eq_true rfl, Nat.le_of_ble_eq_true rfl⟩) ⟨pc_blind, va_recv hK hP (ci := 0) (q0 := 9) rfl rfl, fun U hU hW => ⟨rfl, pc_mk hP hD hK hS hX hT [9, 5] [1] rfl rfl rfl rfl hF44 hU hW⟩⟩ rfl rfl hl.1 rfl (lv_room (Nat.le_of_ble_eq_true rfl)) dX9_restart_85 ⟨(Nat.le_of_ble_eq_true rfl), (Nat.le_of_ble_eq_true rfl)⟩) hS (fun q9 _ h9 => hF44 q9 h9) hF44 (fun u46 r47 t46 H46 L46 ht46 hvm46 hw46 hB46 hz46 hk46 hS => ?_)
  obtain ⟨hr46, hB46⟩ := hB46
  obtain ⟨hP, hD, hK⟩ := pq_join (wr := [(a12, .inr (1, [.int 1, .int 0, .int 1, .ref h1])), (h0, .inr (8, [.int 0, .ref h1, .ref h2, .ref o0, .ref h3, .int 0])), (a32, .inl (k33, 40, .inl (upd (fun _ => 0) 0 120))), (h2, .inr (0, [.int 0, .ref z.1, .int 0])), (h3, .inr (0, [.int 2, .ref a6, .int 1])), (a6, .inl (k7, 10, .inr (.inr (.inr (.inr (va_up (fun _ => none) 0 (some (z.2.2.1 128)))))))), (h5, .inr (7, [.int 105, .int 120, .int 0, .int (-1), .int 0, .int (-1)])), (a38, .inl (k39, 40, .inl (upd (fun _ => 0) 0 120)))]) (tr := [(k33, .char), (k7, .object "java/lang/Object"), (k39, .char)]) (wz := [(a12, .inr (1, [.int 1, .int 0, .int 1, .ref h1])), (h0, .inr (8, [.int 0, .ref h1, .ref h2, .ref o0, .ref h3, .int 0])), (a32, .inl (k33, 40, .inl (upd (fun _ => 0) 0 120))), (h2, .inr (0, [.int 0, .ref z.1, .int 0])), (h3, .inr (0, [.int 2, .ref a6, .int 1])), (a6, .inl (k7, 10, .inr (.inr (.inr (.inr (va_up (fun _ => none) 0 (some (z.2.2.1 128)))))))), (h5, .inr (7, [.int 105, .int 120, .int 0, .int (-1), .int 0, .int (-1)])), (a38, .inl (k39, 40, .inl (upd (fun _ => 0) 0 120))), (h1, .inr (0, [.int 1, .ref h4, .int 1])), (h4, .inl (kc0, 10, .inr (.inr (.inr (.inr (va_up (fun _ => none) 0 (some h5)))))))]) (tz := [(k33, .char), (k7, .object "java/lang/Object"), (k39, .char), (kc0, .object "java/lang/Object")]) hP hD hK [9, 5] [0, 1, 2, 3, 4, 6, 7, 8] [0, 2, 3] rfl rfl (by decide) (by decide) rfl hk46 hF44 hB46.1 ht46 hvm46 rfl rfl
  have hG : s.heap.size + 8 ≤ H46.size := Nat.le_trans hG hz46
  refine W.eq (g2 := F0 m 88 ls [.ref h5]) (by rw [hr46]) ?_
  refine va_castE (nm := RX8) hx hb hown (hts _ q_273) (va_recv hK hP (ci := 7) (q0 := 6) rfl rfl) dX9_restart_88 ?_
  refine lv_aload_n hx hb dX9_restart_91 rfl (lv_at hl 1 rfl) ?_
  refine lv_iload_n hx hb dX9_restart_92 rfl (lv_at hl 0 rfl) ?_
  refine va_cald hx hb hK hP 7 2 rfl rfl (i := 0) (by unfold vp_in; decide) dX9_restart_93 ?_
  refine W.eq (g2 := F0 m 94 ls [.int 120, .ref h5]) rfl ?_
  refine va_put (D := (dC, dI)) (ci := 7) (v := .int 120) (ty := .char) (C := RX8) (T := TX8) (N := 6) hx hb hts in_X8 tyX8 tyX8_ok nmX8 hown hK hP hD (va_Sre hS) 6 rfl rfl 1 (by decide) (hts _ q_311) (fun _ h9 => h9) rfl (by decide +kernel) rfl rfl (Nat.le_of_ble_eq_true rfl) dX9_restart_94 (fun H48 _ hP hD hS' => ?_)
  have hG : s.heap.size + 8 ≤ H48.size := Nat.le_trans hG hS'.1
  have hS := va_Str hS hS'
  have hP : va_P (dC, dI) xCl [(a12, .inr (1, [.int 1, .int 0, .int 1, .ref h1])), (h0, .inr (8, [.int 0, .ref h1, .ref h2, .ref o0, .ref h3, .int 0])), (a32, .inl (k33, 40, .inl (upd (fun _ => 0) 0 120))), (h2, .inr (0, [.int 0, .ref z.1, .int 0])), (h3, .inr (0, [.int 2, .ref a6, .int 1])), (a6, .inl (k7, 10, .inr (.inr (.inr (.inr (va_up (fun _ => none) 0 (some (z.2.2.1 128)))))))), (h5, .inr (7, [.int 105, .int 120, .int 0, .int (-1), .int 0, .int (-1)])), (a38, .inl (k39, 40, .inl (upd (fun _ => 0) 0 120))), (h1, .inr (0, [.int 1, .ref h4, .int 1])), (h4, .inl (kc0, 10, .inr (.inr (.inr (.inr (va_up (fun _ => none) 0 (some h5)))))))] H48 := hP
  have hD : va_D A [(a12, .inr (1, [.int 1, .int 0, .int 1, .ref h1])), (h0, .inr (8, [.int 0, .ref h1, .ref h2, .ref o0, .ref h3, .int 0])), (a32, .inl (k33, 40, .inl (upd (fun _ => 0) 0 120))), (h2, .inr (0, [.int 0, .ref z.1, .int 0])), (h3, .inr (0, [.int 2, .ref a6, .int 1])), (a6, .inl (k7, 10, .inr (.inr (.inr (.inr (va_up (fun _ => none) 0 (some (z.2.2.1 128)))))))), (h5, .inr (7, [.int 105, .int 120, .int 0, .int (-1), .int 0, .int (-1)])), (a38, .inl (k39, 40, .inl (upd (fun _ => 0) 0 120))), (h1, .inr (0, [.int 1, .ref h4, .int 1])), (h4, .inl (kc0, 10, .inr (.inr (.inr (.inr (va_up (fun _ => none) 0 (some h5)))))))] := hD
  refine lv_iinc (v := 1) (lv' := [(2, .int 1), (1, .ref a38), (0, .ref h0)]) hx hb dX9_restart_97 hl (k := 0) rfl (by decide) (by decide) rfl (fun ls hl => ?_)
  refine lv_goto (tgt := 69) hx hb dX9_restart_100 (by decide) ?_
  refine lv_iload_n hx hb dX9_restart_69 rfl (lv_at hl 0 rfl) ?_
  refine lv_aload_n hx hb dX9_restart_70 rfl (lv_at hl 2 rfl) ?_
  refine va_get (D := (dC, dI)) (ci := 8) (v := .ref h1) (C := RX9) (T := TX9) (N := 6) hx hb hts in_X9 hown hK hP 1 rfl rfl 1 (by decide) (hts _ q_64) (fun _ h9 => h9) rfl dX9_restart_71 ?_
  have hF49 := va_free (wc := [(h1, .inr (0, [.int 1, .ref h4, .int 1]))]) hD hS hA [8] rfl
  refine va_calli (va_runV (As := []) (rest := [.int 1]) ⟨hx, hb, hml, hown, hts⟩ (k20_size l hl9 dC dI z h1 h4 H48.size 1 1) (cwV 0 hts (gV q_272 q_77 q_78 q_12 q_75) rfl rfl rfl (by decide +kernel) ⟨Nat.le_of_ble_eq_true rfl, Nat.le_of_ble_eq_true rfl⟩) ⟨pc_blind, va_recv hK hP (ci := 0) (q0 := 8) rfl rfl, fun U hU hW => ⟨rfl, pc_mk hP hD hK hS hX hT [8] [] rfl rfl rfl rfl hF49 hU hW⟩⟩ rfl rfl hl.1 rfl (lv_room (Nat.le_of_ble_eq_true rfl)) dX9_restart_74 ⟨(Nat.le_of_ble_eq_true rfl), (Nat.le_of_ble_eq_true rfl)⟩) hS (fun q9 _ h9 => hF49 q9 h9) hF49 (fun r52 u51 t51 H51 L51 ht51 hvm51 hw51 hB51 hz51 hk51 hS => ?_)
  obtain ⟨hP, hD, hK⟩ := pq_join (wr := [(a12, .inr (1, [.int 1, .int 0, .int 1, .ref h1])), (h0, .inr (8, [.int 0, .ref h1, .ref h2, .ref o0, .ref h3, .int 0])), (a32, .inl (k33, 40, .inl (upd (fun _ => 0) 0 120))), (h2, .inr (0, [.int 0, .ref z.1, .int 0])), (h3, .inr (0, [.int 2, .ref a6, .int 1])), (a6, .inl (k7, 10, .inr (.inr (.inr (.inr (va_up (fun _ => none) 0 (some (z.2.2.1 128)))))))), (h5, .inr (7, [.int 105, .int 120, .int 0, .int (-1), .int 0, .int (-1)])), (a38, .inl (k39, 40, .inl (upd (fun _ => 0) 0 120))), (h4, .inl (kc0, 10, .inr (.inr (.inr (.inr (va_up (fun _ => none) 0 (some h5)))))))]) (tr := [(k33, .char), (k7, .object "java/lang/Object"), (k39, .char), (kc0, .object "java/lang/Object")]) (wz := [(a12, .inr (1, [.int 1, .int 0, .int 1, .ref h1])), (h0, .inr (8, [.int 0, .ref h1, .ref h2, .ref o0, .ref h3, .int 0])), (a32, .inl (k33, 40, .inl (upd (fun _ => 0) 0 120))), (h2, .inr (0, [.int 0, .ref z.1, .int 0])), (h3, .inr (0, [.int 2, .ref a6, .int 1])), (a6, .inl (k7, 10, .inr (.inr (.inr (.inr (va_up (fun _ => none) 0 (some (z.2.2.1 128)))))))), (h5, .inr (7, [.int 105, .int 120, .int 0, .int (-1), .int 0, .int (-1)])), (a38, .inl (k39, 40, .inl (upd (fun _ => 0) 0 120))), (h4, .inl (kc0, 10, .inr (.inr (.inr (.inr (va_up (fun _ => none) 0 (some h5))))))), (h1, .inr (0, [.int 1, .ref h4, .int 1]))]) (tz := [(k33, .char), (k7, .object "java/lang/Object"), (k39, .char), (kc0, .object "java/lang/Object")]) hP hD hK [8] [0, 1, 2, 3, 4, 5, 6, 7, 9] [0, 1, 2, 3] rfl rfl (by decide) (by decide) rfl hk51 hF49 hB51.1 ht51 hvm51 rfl rfl
  have hG : s.heap.size + 8 ≤ H51.size := Nat.le_trans hG hz51
  refine W.eq (g2 := F0 m 77 ls [.int 1, .int 1]) (by rw [hw51]) ?_
  refine lv_icmp_ge (tgt := 103) hx hb dX9_restart_77 (by decide) (fun _ => ?_) (fun cz => absurd (by decide) cz)
  refine lv_aload_n hx hb dX9_restart_103 rfl (lv_at hl 2 rfl) ?_
  refine va_get (D := (dC, dI)) (ci := 8) (v := .ref h2) (C := RX9) (T := TX9) (N := 6) hx hb hts in_X9 hown hK hP 1 rfl rfl 2 (by decide) (hts _ q_65) (fun _ h9 => h9) rfl dX9_restart_104 ?_
  have hF53 := va_free (wc := [(h2, .inr (0, [.int 0, .ref z.1, .int 0]))]) hD hS hA [3] rfl
  refine va_callr (va_runV (As := []) (rest := []) ⟨hx, hb, hml, hown, hts⟩ (k49_iterator l hl9 dC dI z h2 H51.size) (cwV 0 hts (gV q_256 q_257 q_258 q_12 q_255) rfl rfl rfl (by decide +kernel) ⟨Nat.le_of_ble_eq_true rfl, Nat.le_of_ble_eq_true rfl⟩) ⟨pc_blind, va_recv hK hP (ci := 0) (q0 := 3) rfl rfl, fun U hU hW => ⟨rfl, pc_mk hP hD hK hS hX hT [3] [] rfl rfl rfl rfl hF53 hU hW⟩⟩ rfl rfl hl.1 rfl (lv_room (Nat.le_of_ble_eq_true rfl)) dX9_restart_107 ⟨(Nat.le_of_ble_eq_true rfl), (Nat.le_of_ble_eq_true rfl)⟩) hS (fun q9 _ h9 => hF53 q9 h9) hF53 (fun u55 r56 t55 H55 L55 ht55 hvm55 hw55 hB55 hz55 hk55 hS => ?_)
  obtain ⟨a57, hr55, hB55⟩ := hB55
  obtain ⟨hP, hD, hK⟩ := pq_join (wr := [(a12, .inr (1, [.int 1, .int 0, .int 1, .ref h1])), (h0, .inr (8, [.int 0, .ref h1, .ref h2, .ref o0, .ref h3, .int 0])), (a32, .inl (k33, 40, .inl (upd (fun _ => 0) 0 120))), (h3, .inr (0, [.int 2, .ref a6, .int 1])), (a6, .inl (k7, 10, .inr (.inr (.inr (.inr (va_up (fun _ => none) 0 (some (z.2.2.1 128)))))))), (h5, .inr (7, [.int 105, .int 120, .int 0, .int (-1), .int 0, .int (-1)])), (a38, .inl (k39, 40, .inl (upd (fun _ => 0) 0 120))), (h4, .inl (kc0, 10, .inr (.inr (.inr (.inr (va_up (fun _ => none) 0 (some h5))))))), (h1, .inr (0, [.int 1, .ref h4, .int 1]))]) (tr := [(k33, .char), (k7, .object "java/lang/Object"), (k39, .char), (kc0, .object "java/lang/Object")]) (wz := [(a12, .inr (1, [.int 1, .int 0, .int 1, .ref h1])), (h0, .inr (8, [.int 0, .ref h1, .ref h2, .ref o0, .ref h3, .int 0])), (a32, .inl (k33, 40, .inl (upd (fun _ => 0) 0 120))), (h3, .inr (0, [.int 2, .ref a6, .int 1])), (a6, .inl (k7, 10, .inr (.inr (.inr (.inr (va_up (fun _ => none) 0 (some (z.2.2.1 128)))))))), (h5, .inr (7, [.int 105, .int 120, .int 0, .int (-1), .int 0, .int (-1)])), (a38, .inl (k39, 40, .inl (upd (fun _ => 0) 0 120))), (h4, .inl (kc0, 10, .inr (.inr (.inr (.inr (va_up (fun _ => none) 0 (some h5))))))), (h1, .inr (0, [.int 1, .ref h4, .int 1])), (h2, .inr (0, [.int 0, .ref z.1, .int 0])), (a57, .inr (1, [.int 0, .int (-1), .int 0, .ref h2]))]) (tz := [(k33, .char), (k7, .object "java/lang/Object"), (k39, .char), (kc0, .object "java/lang/Object")]) hP hD hK [3] [0, 1, 2, 4, 5, 6, 7, 8, 9] [0, 1, 2, 3] rfl rfl (by decide) (by decide) rfl hk55 hF53 hB55.1 ht55 hvm55 rfl rfl
  have hG : s.heap.size + 9 ≤ H55.size := va_gr (g := 8) (g1 := 1) hG (by rw [← ht55]; exact hB55.2)
  refine W.eq (g2 := F0 m 110 ls [.ref a57]) (by rw [hr55]) ?_
  refine W.widen (k := 9) (n := 150) (by decide) (by decide) ?_
  refine lv_astore_n (lv' := [(2, .ref a57), (1, .ref a38), (0, .ref h0)]) hx hb dX9_restart_110 rfl hl (by decide) rfl (fun ls hl => ?_)
  refine lv_aload_n hx hb dX9_restart_111 rfl (lv_at hl 0 rfl) ?_
  have hF58 := va_free (wc := [(a57, .inr (1, [.int 0, .int (-1), .int 0, .ref h2])), (h2, .inr (0, [.int 0, .ref z.1, .int 0]))]) hD hS hA [10, 9] rfl
  refine va_callFi (va_runF (As := []) (rest := []) (hK.1 1 _ rfl).2 ⟨hx, hb, hml, hown, hts⟩ (k50_hasNext l hl9 dC dI z a57 h2 H55.size) (va_cwF 0 hts (gF q_261 q_262 q_263 q_246 q_260) rfl rfl rfl hT.2.2.2.2.2.2.1 (by decide +kernel) ⟨Nat.le_of_ble_eq_true rfl, Nat.le_of_ble_eq_true rfl⟩) ⟨pc_blind, va_recv hK hP (ci := 1) (q0 := 10) rfl rfl, fun U hU hW => ⟨rfl, pc_mk hP hD hK hS hX hT [10, 9] [] rfl rfl rfl rfl hF58 hU hW⟩⟩ rfl rfl hl.1 rfl (lv_room (Nat.le_of_ble_eq_true rfl)) dX9_restart_112 ⟨(Nat.le_of_ble_eq_true rfl), (Nat.le_of_ble_eq_true rfl)⟩) hS (fun q9 _ h9 => hF58 q9 h9) hF58 (fun r61 u60 t60 H60 L60 ht60 hvm60 hw60 hB60 hz60 hk60 hS => ?_)
  obtain ⟨hP, hD, hK⟩ := pq_join (wr := [(a12, .inr (1, [.int 1, .int 0, .int 1, .ref h1])), (h0, .inr (8, [.int 0, .ref h1, .ref h2, .ref o0, .ref h3, .int 0])), (a32, .inl (k33, 40, .inl (upd (fun _ => 0) 0 120))), (h3, .inr (0, [.int 2, .ref a6, .int 1])), (a6, .inl (k7, 10, .inr (.inr (.inr (.inr (va_up (fun _ => none) 0 (some (z.2.2.1 128)))))))), (h5, .inr (7, [.int 105, .int 120, .int 0, .int (-1), .int 0, .int (-1)])), (a38, .inl (k39, 40, .inl (upd (fun _ => 0) 0 120))), (h4, .inl (kc0, 10, .inr (.inr (.inr (.inr (va_up (fun _ => none) 0 (some h5))))))), (h1, .inr (0, [.int 1, .ref h4, .int 1]))]) (tr := [(k33, .char), (k7, .object "java/lang/Object"), (k39, .char), (kc0, .object "java/lang/Object")]) (wz := [(a12, .inr (1, [.int 1, .int 0, .int 1, .ref h1])), (h0, .inr (8, [.int 0, .ref h1, .ref h2, .ref o0, .ref h3, .int 0])), (a32, .inl (k33, 40, .inl (upd (fun _ => 0) 0 120))), (h3, .inr (0, [.int 2, .ref a6, .int 1])), (a6, .inl (k7, 10, .inr (.inr (.inr (.inr (va_up (fun _ => none) 0 (some (z.2.2.1 128)))))))), (h5, .inr (7, [.int 105, .int 120, .int 0, .int (-1), .int 0, .int (-1)])), (a38, .inl (k39, 40, .inl (upd (fun _ => 0) 0 120))), (h4, .inl (kc0, 10, .inr (.inr (.inr (.inr (va_up (fun _ => none) 0 (some h5))))))), (h1, .inr (0, [.int 1, .ref h4, .int 1])), (a57, .inr (1, [.int 0, .int (-1), .int 0, .ref h2])), (h2, .inr (0, [.int 0, .ref z.1, .int 0]))]) (tz := [(k33, .char), (k7, .object "java/lang/Object"), (k39, .char), (kc0, .object "java/lang/Object")]) hP hD hK [10, 9] [0, 1, 2, 3, 4, 5, 6, 7, 8] [0, 1, 2, 3] rfl rfl (by decide) (by decide) rfl hk60 hF58 hB60.1 ht60 hvm60 rfl rfl
  have hG : s.heap.size + 9 ≤ H60.size := Nat.le_trans hG hz60
  refine W.eq (g2 := F0 m 117 ls [.int 0]) (by rw [hw60]) ?_
  refine lv_if_eq (tgt := 147) hx hb dX9_restart_117 (by decide) (fun _ => ?_) (fun cz => absurd (by decide) cz)
  exact W.vret hx hb hr (fun t9 ht9 hW9 => ⟨⟨(), rfl, trivial, ⟨a6, k7, ⟨pq_mk (wc := [(h0, .inr (8, [.int 0, .ref h1, .ref h2, .ref o0, .ref h3, .int 0])), (h1, .inr (0, [.int 1, .ref h4, .int 1])), (h2, .inr (0, [.int 0, .ref z.1, .int 0])), (h3, .inr (0, [.int 2, .ref a6, .int 1])), (h4, .inl (kc0, 10, .inr (.inr (.inr (.inr (va_up (fun _ => none) 0 (some h5))))))), (h5, .inr (7, [.int 105, .int 120, .int 0, .int (-1), .int 0, .int (-1)])), (a6, .inl (k7, 10, .inr (.inr (.inr (.inr (va_up (fun _ => none) 0 (some (z.2.2.1 128))))))))]) (tc := [(kc0, .object "java/lang/Object"), (k7, .object "java/lang/Object")]) hP hD hK [1, 8, 10, 3, 7, 5, 4] [3, 1] rfl rfl rfl rfl ht9 hW9, by rw [ht9]; exact Nat.le_trans (Nat.add_le_add_left (Nat.le_of_ble_eq_true rfl) _) hG⟩⟩⟩, hS.F ht9⟩) hS.2.2 dX9_restart_147

set_option maxHeartbeats 4000000 in
set_option maxRecDepth 100000 in
theorem k78_addSource (l : Launch) (hl9 : l.stackTraces = false) (dC : Nat → ClassId) (dI : Nat → Nat → Nat) (z : XZ) (h0 h1 h2 h3 : Nat) (o0 : Nat) (sz : Nat) : Met l yX9_addSource (.code yX9_addSource cX9_addSource 3 (some .int) :: wsL_law) ({ frames := 7, cells := 12, slots := 170, locals := 157 }) (va_Pc [.ref h0, .int 105] (PC (dC, dI) [(h0, .inr (8, [.int 0, .ref h1, .ref h2, .ref o0, .ref h3, .int 0])), (h1, .inr (0, [.int 0, .ref z.1, .int 0])), (h2, .inr (0, [.int 0, .ref z.1, .int 0])), (h3, .inr (0, [.int 0, .ref z.1, .int 0]))] [] sz z)) (va_Qi (fun (r : Int32) (_ : Unit) => r = 0) (fun (_ : Unit) (t : State) => ∃ (n0 n1 n2 : Nat), ∃ (m0 m1 : ClassId), PG (dC, dI) [(h0, .inr (8, [.int 0, .ref h1, .ref h2, .ref o0, .ref h3, .int 0])), (h1, .inr (0, [.int 1, .ref n0, .int 1])), (h2, .inr (0, [.int 0, .ref z.1, .int 0])), (h3, .inr (0, [.int 2, .ref n1, .int 1])), (n0, .inl (m0, 10, .inr (.inr (.inr (.inr (va_up (fun _ => none) 0 (some n2))))))), (n1, .inl (m1, 10, .inr (.inr (.inr (.inr (va_up (fun _ => none) 0 (some (z.2.2.1 128)))))))), (n2, .inr (7, [.int 105, .int 120, .int 0, .int (-1), .int 0, .int (-1)]))] [(m0, .object "java/lang/Object"), (m1, .object "java/lang/Object")] (va_A [(h0, .inr (8, [.int 0, .ref h1, .ref h2, .ref o0, .ref h3, .int 0])), (h1, .inr (0, [.int 0, .ref z.1, .int 0])), (h2, .inr (0, [.int 0, .ref z.1, .int 0])), (h3, .inr (0, [.int 0, .ref z.1, .int 0]))] sz) sz 12 t) (va_A [(h0, .inr (8, [.int 0, .ref h1, .ref h2, .ref o0, .ref h3, .int 0])), (h1, .inr (0, [.int 0, .ref z.1, .int 0])), (h2, .inr (0, [.int 0, .ref z.1, .int 0])), (h3, .inr (0, [.int 0, .ref z.1, .int 0]))] sz)) 12 170 (va_A [(h0, .inr (8, [.int 0, .ref h1, .ref h2, .ref o0, .ref h3, .int 0])), (h1, .inr (0, [.int 0, .ref z.1, .int 0])), (h2, .inr (0, [.int 0, .ref z.1, .int 0])), (h3, .inr (0, [.int 0, .ref z.1, .int 0]))] sz) := by
  refine Met.ofW (cc := cX9_addSource) (maxL := 3) (ret := (some .int)) (by decide) rfl ?_
  intro p e s m args below meth c s₁ B hml hv
  obtain ⟨rfl, hsz, hP, hK, hD0, hX, hT⟩ := hv
  have hx := B.exec
  have hb := B.bytes
  have hr := B.returns
  have hts0 := atoms_spec (ws := .code yX9_addSource cX9_addSource 3 (some .int) :: wsL_law) B.pre
  have hts := xTail hts0
  have hown : s.vm.findClass RX9 = some m.cls := findClass_of_methodNamed B.named
  have hlocks := B.notSynchronized
  subst hsz
  have hD := hD0.self (sz := s.heap.size)
  generalize hAe : va_A [(h0, .inr (8, [.int 0, .ref h1, .ref h2, .ref o0, .ref h3, .int 0])), (h1, .inr (0, [.int 0, .ref z.1, .int 0])), (h2, .inr (0, [.int 0, .ref z.1, .int 0])), (h3, .inr (0, [.int 0, .ref z.1, .int 0]))] s.heap.size = A at hD hX ⊢
  have hA : ∀ q : Nat, s.heap.size ≤ q → A q := fun q h => by rw [← hAe]; exact Or.inr h
  have hS : va_S A s.heap s.heap [] := va_S.rf
  have hG : s.heap.size + 0 ≤ s.heap.size := Nat.le_refl _
  have hl := lv_entry ([.ref h0, .int 105]) (n := 3) (Nat.le_of_ble_eq_true rfl)
  rw [lg_entry_eq]
  generalize (lg_sl ([.ref h0, .int 105]) ++ List.replicate (3 - (lg_sl ([.ref h0, .int 105])).length) Slot.unset).toArray = ls at hl ⊢
  have hl : lv_has ls 3 [(0, .ref h0), (1, .int 105)] := hl
  refine lv_aload_n hx hb dX9_addSource_0 rfl (lv_at hl 0 rfl) ?_
  refine lv_aload_n hx hb dX9_addSource_1 rfl (lv_at hl 0 rfl) ?_
  have hF1 := va_free (wc := [(h0, .inr (8, [.int 0, .ref h1, .ref h2, .ref o0, .ref h3, .int 0])), (h1, .inr (0, [.int 0, .ref z.1, .int 0]))]) hD hS hA [0, 1] rfl
  refine va_calli (va_runV (As := []) (rest := [.ref h0]) ⟨hx, hb, hml, hown, hts⟩ (k51_sources l hl9 dC dI z h0 h1 h2 o0 h3 s.heap.size) (cwV 0 hts (gV q_265 q_266 q_267 q_60 q_264) rfl rfl rfl (by decide +kernel) ⟨Nat.le_of_ble_eq_true rfl, Nat.le_of_ble_eq_true rfl⟩) ⟨pc_blind, va_recv hK hP (ci := 8) (q0 := 0) rfl rfl, fun U hU hW => ⟨rfl, pc_mk hP hD hK hS hX hT [0, 1] [] rfl rfl rfl rfl hF1 hU hW⟩⟩ rfl rfl hl.1 rfl (lv_room (Nat.le_of_ble_eq_true rfl)) dX9_addSource_2 ⟨(Nat.le_of_ble_eq_true rfl), (Nat.le_of_ble_eq_true rfl)⟩) hS (fun q9 _ h9 => hF1 q9 h9) hF1 (fun r4 u3 t3 H3 L3 ht3 hvm3 hw3 hB3 hz3 hk3 hS => ?_)
  obtain ⟨hP, hD, hK⟩ := pq_join (wr := [(h2, .inr (0, [.int 0, .ref z.1, .int 0])), (h3, .inr (0, [.int 0, .ref z.1, .int 0]))]) (tr := []) (wz := [(h2, .inr (0, [.int 0, .ref z.1, .int 0])), (h3, .inr (0, [.int 0, .ref z.1, .int 0])), (h0, .inr (8, [.int 0, .ref h1, .ref h2, .ref o0, .ref h3, .int 0])), (h1, .inr (0, [.int 0, .ref z.1, .int 0]))]) (tz := []) hP hD hK [0, 1] [2, 3] [] rfl rfl (by decide) (by decide) rfl hk3 hF1 hB3.1 ht3 hvm3 rfl rfl
  have hG : s.heap.size + 1 ≤ H3.size := va_gr (g := 0) (g1 := 1) hG (by rw [← ht3]; exact hB3.2)
  refine W.eq (g2 := F0 m 5 ls [.int 0, .ref h0]) (by rw [hw3]) ?_
  refine W.widen (k := 1) (n := 4) (by decide) (by decide) ?_
  refine lv_bipush (v := 8) hx hb dX9_addSource_5 (by decide) ?_
  refine lv_icmp_ne (tgt := 14) hx hb dX9_addSource_7 (by decide) (fun _ => ?_) (fun cz => absurd cz (by decide))
  refine lv_iconst (v := 0) hx hb dX9_addSource_14 (by decide) ?_
  refine lv_iconst (v := 1) hx hb dX9_addSource_15 (by decide) ?_
  have hF5 := va_free (wc := [(h0, .inr (8, [.int 0, .ref h1, .ref h2, .ref o0, .ref h3, .int 0]))]) hD hS hA [2] rfl
  refine va_calli (va_runV (As := [.int 0, .int 1]) (rest := []) ⟨hx, hb, hml, hown, hts⟩ (k52_fails l hl9 dC dI z h0 h1 h2 o0 h3 H3.size) (cwV 2 hts (gV q_269 q_270 q_271 q_60 q_268) rfl rfl rfl (by decide +kernel) ⟨Nat.le_of_ble_eq_true rfl, Nat.le_of_ble_eq_true rfl⟩) ⟨pc_blind, va_recv hK hP (ci := 8) (q0 := 2) rfl rfl, fun U hU hW => ⟨rfl, pc_mk hP hD hK hS hX hT [2] [] rfl rfl rfl rfl hF5 hU hW⟩⟩ rfl rfl hl.1 rfl (lv_room (Nat.le_of_ble_eq_true rfl)) dX9_addSource_16 ⟨(Nat.le_of_ble_eq_true rfl), (Nat.le_of_ble_eq_true rfl)⟩) hS (fun q9 _ h9 => hF5 q9 h9) hF5 (fun r8 u7 t7 H7 L7 ht7 hvm7 hw7 hB7 hz7 hk7 hS => ?_)
  obtain ⟨hP, hD, hK⟩ := pq_join (wr := [(h2, .inr (0, [.int 0, .ref z.1, .int 0])), (h3, .inr (0, [.int 0, .ref z.1, .int 0])), (h1, .inr (0, [.int 0, .ref z.1, .int 0]))]) (tr := []) (wz := [(h2, .inr (0, [.int 0, .ref z.1, .int 0])), (h3, .inr (0, [.int 0, .ref z.1, .int 0])), (h1, .inr (0, [.int 0, .ref z.1, .int 0])), (h0, .inr (8, [.int 0, .ref h1, .ref h2, .ref o0, .ref h3, .int 0]))]) (tz := []) hP hD hK [2] [0, 1, 3] [] rfl rfl (by decide) (by decide) rfl hk7 hF5 hB7.1 ht7 hvm7 rfl rfl
  have hG : s.heap.size + 1 ≤ H7.size := Nat.le_trans hG hz7
  refine W.eq (g2 := F0 m 19 ls [.int 0]) (by rw [hw7]) ?_
  refine lv_if_ne (tgt := 47) hx hb dX9_addSource_19 (by decide) (fun cz => absurd (by decide) cz) (fun _ => ?_)
  refine lv_aload_n hx hb dX9_addSource_22 rfl (lv_at hl 0 rfl) ?_
  refine lv_aload_n hx hb dX9_addSource_23 rfl (lv_at hl 0 rfl) ?_
  refine va_get (D := (dC, dI)) (ci := 8) (v := .ref h1) (C := RX9) (T := TX9) (N := 6) hx hb hts in_X9 hown hK hP 3 rfl rfl 1 (by decide) (hts _ q_64) (fun _ h9 => h9) rfl dX9_addSource_24 ?_
  have hF9 := va_free (wc := [(h1, .inr (0, [.int 0, .ref z.1, .int 0]))]) hD hS hA [2] rfl
  refine va_calli (va_runV (As := []) (rest := [.ref h0]) ⟨hx, hb, hml, hown, hts⟩ (k9_size l hl9 dC dI z h1 H7.size 0 0) (cwV 0 hts (gV q_272 q_77 q_78 q_12 q_75) rfl rfl rfl (by decide +kernel) ⟨Nat.le_of_ble_eq_true rfl, Nat.le_of_ble_eq_true rfl⟩) ⟨pc_blind, va_recv hK hP (ci := 0) (q0 := 2) rfl rfl, fun U hU hW => ⟨rfl, pc_mk hP hD hK hS hX hT [2] [] rfl rfl rfl rfl hF9 hU hW⟩⟩ rfl rfl hl.1 rfl (lv_room (Nat.le_of_ble_eq_true rfl)) dX9_addSource_27 ⟨(Nat.le_of_ble_eq_true rfl), (Nat.le_of_ble_eq_true rfl)⟩) hS (fun q9 _ h9 => hF9 q9 h9) hF9 (fun r12 u11 t11 H11 L11 ht11 hvm11 hw11 hB11 hz11 hk11 hS => ?_)
  obtain ⟨hP, hD, hK⟩ := pq_join (wr := [(h2, .inr (0, [.int 0, .ref z.1, .int 0])), (h3, .inr (0, [.int 0, .ref z.1, .int 0])), (h0, .inr (8, [.int 0, .ref h1, .ref h2, .ref o0, .ref h3, .int 0]))]) (tr := []) (wz := [(h2, .inr (0, [.int 0, .ref z.1, .int 0])), (h3, .inr (0, [.int 0, .ref z.1, .int 0])), (h0, .inr (8, [.int 0, .ref h1, .ref h2, .ref o0, .ref h3, .int 0])), (h1, .inr (0, [.int 0, .ref z.1, .int 0]))]) (tz := []) hP hD hK [2] [0, 1, 3] [] rfl rfl (by decide) (by decide) rfl hk11 hF9 hB11.1 ht11 hvm11 rfl rfl
  have hG : s.heap.size + 1 ≤ H11.size := Nat.le_trans hG hz11
  refine W.eq (g2 := F0 m 30 ls [.int 0, .ref h0]) (by rw [hw11]) ?_
  refine lv_bipush (v := 40) hx hb dX9_addSource_30 (by decide) ?_
  refine lv_icmp_ne (tgt := 39) hx hb dX9_addSource_32 (by decide) (fun _ => ?_) (fun cz => absurd cz (by decide))
  refine lv_iconst (v := 0) hx hb dX9_addSource_39 (by decide) ?_
  refine lv_iconst (v := 2) hx hb dX9_addSource_40 (by decide) ?_
  have hF13 := va_free (wc := [(h0, .inr (8, [.int 0, .ref h1, .ref h2, .ref o0, .ref h3, .int 0]))]) hD hS hA [2] rfl
  refine va_calli (va_runV (As := [.int 0, .int 2]) (rest := []) ⟨hx, hb, hml, hown, hts⟩ (k53_fails l hl9 dC dI z h0 h1 h2 o0 h3 H11.size) (cwV 2 hts (gV q_269 q_270 q_271 q_60 q_268) rfl rfl rfl (by decide +kernel) ⟨Nat.le_of_ble_eq_true rfl, Nat.le_of_ble_eq_true rfl⟩) ⟨pc_blind, va_recv hK hP (ci := 8) (q0 := 2) rfl rfl, fun U hU hW => ⟨rfl, pc_mk hP hD hK hS hX hT [2] [] rfl rfl rfl rfl hF13 hU hW⟩⟩ rfl rfl hl.1 rfl (lv_room (Nat.le_of_ble_eq_true rfl)) dX9_addSource_41 ⟨(Nat.le_of_ble_eq_true rfl), (Nat.le_of_ble_eq_true rfl)⟩) hS (fun q9 _ h9 => hF13 q9 h9) hF13 (fun r16 u15 t15 H15 L15 ht15 hvm15 hw15 hB15 hz15 hk15 hS => ?_)
  obtain ⟨hP, hD, hK⟩ := pq_join (wr := [(h2, .inr (0, [.int 0, .ref z.1, .int 0])), (h3, .inr (0, [.int 0, .ref z.1, .int 0])), (h1, .inr (0, [.int 0, .ref z.1, .int 0]))]) (tr := []) (wz := [(h2, .inr (0, [.int 0, .ref z.1, .int 0])), (h3, .inr (0, [.int 0, .ref z.1, .int 0])), (h1, .inr (0, [.int 0, .ref z.1, .int 0])), (h0, .inr (8, [.int 0, .ref h1, .ref h2, .ref o0, .ref h3, .int 0]))]) (tz := []) hP hD hK [2] [0, 1, 3] [] rfl rfl (by decide) (by decide) rfl hk15 hF13 hB15.1 ht15 hvm15 rfl rfl
  have hG : s.heap.size + 1 ≤ H15.size := Nat.le_trans hG hz15
  refine W.eq (g2 := F0 m 44 ls [.int 0]) (by rw [hw15]) ?_
  refine lv_if_eq (tgt := 49) hx hb dX9_addSource_44 (by decide) (fun _ => ?_) (fun cz => absurd (by decide) cz)
  refine lv_aload_n hx hb dX9_addSource_49 rfl (lv_at hl 0 rfl) ?_
  refine lv_iload_n hx hb dX9_addSource_50 rfl (lv_at hl 1 rfl) ?_
  have hF17 := va_free (wc := [(h0, .inr (8, [.int 0, .ref h1, .ref h2, .ref o0, .ref h3, .int 0])), (h1, .inr (0, [.int 0, .ref z.1, .int 0]))]) hD hS hA [3, 2] rfl
  refine va_calli (va_runV (As := [.int 105]) (rest := []) ⟨hx, hb, hml, hown, hts⟩ (k57_add l hl9 dC dI z h0 h1 h2 o0 h3 H15.size) (cwV 1 hts (gV q_286 q_287 q_288 q_60 q_285) rfl rfl rfl (by decide +kernel) ⟨Nat.le_of_ble_eq_true rfl, Nat.le_of_ble_eq_true rfl⟩) ⟨pc_blind, va_recv hK hP (ci := 8) (q0 := 3) rfl rfl, fun U hU hW => ⟨rfl, pc_mk hP hD hK hS hX hT [3, 2] [] rfl rfl rfl rfl hF17 hU hW⟩⟩ rfl rfl hl.1 rfl (lv_room (Nat.le_of_ble_eq_true rfl)) dX9_addSource_51 ⟨(Nat.le_of_ble_eq_true rfl), (Nat.le_of_ble_eq_true rfl)⟩) hS (fun q9 _ h9 => hF17 q9 h9) hF17 (fun r20 u19 t19 H19 L19 ht19 hvm19 hw19 hB19 hz19 hk19 hS => ?_)
  obtain ⟨a21, a22, k23, hB19⟩ := hB19
  obtain ⟨hP, hD, hK⟩ := pq_join (wr := [(h2, .inr (0, [.int 0, .ref z.1, .int 0])), (h3, .inr (0, [.int 0, .ref z.1, .int 0]))]) (tr := []) (wz := [(h2, .inr (0, [.int 0, .ref z.1, .int 0])), (h3, .inr (0, [.int 0, .ref z.1, .int 0])), (h0, .inr (8, [.int 0, .ref h1, .ref h2, .ref o0, .ref h3, .int 0])), (h1, .inr (0, [.int 1, .ref a21, .int 1])), (a21, .inl (k23, 10, .inr (.inr (.inr (.inr (va_up (fun _ => none) 0 (some a22))))))), (a22, .inr (7, [.int 105, .int 120, .int 0, .int (-1), .int 0, .int (-1)]))]) (tz := [(k23, .object "java/lang/Object")]) hP hD hK [3, 2] [0, 1] [] rfl rfl (by decide) (by decide) rfl hk19 hF17 hB19.1 ht19 hvm19 rfl rfl
  have hG : s.heap.size + 3 ≤ H19.size := va_gr (g := 1) (g1 := 2) hG (by rw [← ht19]; exact hB19.2)
  refine W.eq (g2 := F0 m 54 ls [.int 0]) (by rw [hw19]) ?_
  refine W.widen (k := 3) (n := 20) (by decide) (by decide) ?_
  refine lv_istore_n (lv' := [(2, .int 0), (0, .ref h0), (1, .int 105)]) hx hb dX9_addSource_54 rfl hl (by decide) rfl (fun ls hl => ?_)
  refine lv_aload_n hx hb dX9_addSource_55 rfl (lv_at hl 1 rfl) ?_
  have hF24 := va_free (wc := [(h0, .inr (8, [.int 0, .ref h1, .ref h2, .ref o0, .ref h3, .int 0])), (h1, .inr (0, [.int 1, .ref a21, .int 1])), (h2, .inr (0, [.int 0, .ref z.1, .int 0])), (h3, .inr (0, [.int 0, .ref z.1, .int 0])), (a21, .inl (k23, 10, .inr (.inr (.inr (.inr (va_up (fun _ => none) 0 (some a22))))))), (a22, .inr (7, [.int 105, .int 120, .int 0, .int (-1), .int 0, .int (-1)]))]) hD hS hA [2, 3, 0, 1, 4, 5] rfl
  refine va_callv (va_runV (As := []) (rest := []) ⟨hx, hb, hml, hown, hts⟩ (k77_restart l hl9 dC dI z h0 h1 h2 h3 a21 a22 o0 H19.size k23) (cwV 0 hts (gV q_332 q_333 q_334 q_60 q_331) rfl rfl rfl (by decide +kernel) ⟨Nat.le_of_ble_eq_true rfl, Nat.le_of_ble_eq_true rfl⟩) ⟨pc_blind, va_recv hK hP (ci := 8) (q0 := 2) rfl rfl, fun U hU hW => ⟨rfl, pc_mk hP hD hK hS hX hT [2, 3, 0, 1, 4, 5] [0] rfl rfl rfl rfl hF24 hU hW⟩⟩ rfl rfl hl.1 rfl (lv_room (Nat.le_of_ble_eq_true rfl)) dX9_addSource_56 ⟨(Nat.le_of_ble_eq_true rfl), (Nat.le_of_ble_eq_true rfl)⟩) hS (fun q9 _ h9 => hF24 q9 h9) hF24 (fun u26 t26 H26 L26 ht26 hvm26 hw26 hB26 hz26 hk26 hS => ?_)
  obtain ⟨a28, k29, hB26⟩ := hB26
  obtain ⟨hP, hD, hK⟩ := pq_join (wr := []) (tr := []) (wz := [(h0, .inr (8, [.int 0, .ref h1, .ref h2, .ref o0, .ref h3, .int 0])), (h1, .inr (0, [.int 1, .ref a21, .int 1])), (h2, .inr (0, [.int 0, .ref z.1, .int 0])), (h3, .inr (0, [.int 2, .ref a28, .int 1])), (a21, .inl (k23, 10, .inr (.inr (.inr (.inr (va_up (fun _ => none) 0 (some a22))))))), (a22, .inr (7, [.int 105, .int 120, .int 0, .int (-1), .int 0, .int (-1)])), (a28, .inl (k29, 10, .inr (.inr (.inr (.inr (va_up (fun _ => none) 0 (some (z.2.2.1 128))))))))]) (tz := [(k23, .object "java/lang/Object"), (k29, .object "java/lang/Object")]) hP hD hK [2, 3, 0, 1, 4, 5] [] [] rfl rfl (by decide) (by decide) rfl hk26 hF24 hB26.1 ht26 hvm26 rfl rfl
  have hG : s.heap.size + 12 ≤ H26.size := va_gr (g := 3) (g1 := 9) hG (by rw [← ht26]; exact hB26.2)
  refine W.widen (k := 12) (n := 170) (by decide) (by decide) ?_
  refine lv_iload_n hx hb dX9_addSource_59 rfl (lv_at hl 0 rfl) ?_
  exact W.iret (v := 0) hx hb hr (fun t9 ht9 hW9 => ⟨⟨0, (), rfl, rfl, ⟨a21, a28, a22, k23, k29, ⟨pq_mk (wc := [(h0, .inr (8, [.int 0, .ref h1, .ref h2, .ref o0, .ref h3, .int 0])), (h1, .inr (0, [.int 1, .ref a21, .int 1])), (h2, .inr (0, [.int 0, .ref z.1, .int 0])), (h3, .inr (0, [.int 2, .ref a28, .int 1])), (a21, .inl (k23, 10, .inr (.inr (.inr (.inr (va_up (fun _ => none) 0 (some a22))))))), (a28, .inl (k29, 10, .inr (.inr (.inr (.inr (va_up (fun _ => none) 0 (some (z.2.2.1 128)))))))), (a22, .inr (7, [.int 105, .int 120, .int 0, .int (-1), .int 0, .int (-1)]))]) (tc := [(k23, .object "java/lang/Object"), (k29, .object "java/lang/Object")]) hP hD hK [0, 1, 2, 3, 4, 6, 5] [0, 1] rfl rfl rfl rfl ht9 hW9, by rw [ht9]; exact Nat.le_trans (Nat.add_le_add_left (Nat.le_of_ble_eq_true rfl) _) hG⟩⟩⟩, hS.F ht9⟩) hS.2.2 dX9_addSource_60

set_option maxHeartbeats 4000000 in
set_option maxRecDepth 100000 in
theorem k79_addInput (l : Launch) (hl9 : l.stackTraces = false) (dC : Nat → ClassId) (dI : Nat → Nat → Nat) (z : XZ) (h0 h1 h2 h3 : Nat) (o0 : Nat) (sz : Nat) : Met l yX9_addInput (.code yX9_addInput cX9_addInput 1 (some .int) :: wsL_law) ({ frames := 8, cells := 12, slots := 170, locals := 179 }) (va_Pc [.ref h0] (PC (dC, dI) [(h0, .inr (8, [.int 0, .ref h1, .ref h2, .ref o0, .ref h3, .int 0])), (h1, .inr (0, [.int 0, .ref z.1, .int 0])), (h2, .inr (0, [.int 0, .ref z.1, .int 0])), (h3, .inr (0, [.int 0, .ref z.1, .int 0]))] [] sz z)) (va_Qi (fun (r : Int32) (_ : Unit) => r = 0) (fun (_ : Unit) (t : State) => ∃ (n0 n1 n2 : Nat), ∃ (m0 m1 : ClassId), PG (dC, dI) [(h0, .inr (8, [.int 0, .ref h1, .ref h2, .ref o0, .ref h3, .int 0])), (h1, .inr (0, [.int 1, .ref n0, .int 1])), (h2, .inr (0, [.int 0, .ref z.1, .int 0])), (h3, .inr (0, [.int 2, .ref n1, .int 1])), (n0, .inl (m0, 10, .inr (.inr (.inr (.inr (va_up (fun _ => none) 0 (some n2))))))), (n1, .inl (m1, 10, .inr (.inr (.inr (.inr (va_up (fun _ => none) 0 (some (z.2.2.1 128)))))))), (n2, .inr (7, [.int 105, .int 120, .int 0, .int (-1), .int 0, .int (-1)]))] [(m0, .object "java/lang/Object"), (m1, .object "java/lang/Object")] (va_A [(h0, .inr (8, [.int 0, .ref h1, .ref h2, .ref o0, .ref h3, .int 0])), (h1, .inr (0, [.int 0, .ref z.1, .int 0])), (h2, .inr (0, [.int 0, .ref z.1, .int 0])), (h3, .inr (0, [.int 0, .ref z.1, .int 0]))] sz) sz 12 t) (va_A [(h0, .inr (8, [.int 0, .ref h1, .ref h2, .ref o0, .ref h3, .int 0])), (h1, .inr (0, [.int 0, .ref z.1, .int 0])), (h2, .inr (0, [.int 0, .ref z.1, .int 0])), (h3, .inr (0, [.int 0, .ref z.1, .int 0]))] sz)) 12 170 (va_A [(h0, .inr (8, [.int 0, .ref h1, .ref h2, .ref o0, .ref h3, .int 0])), (h1, .inr (0, [.int 0, .ref z.1, .int 0])), (h2, .inr (0, [.int 0, .ref z.1, .int 0])), (h3, .inr (0, [.int 0, .ref z.1, .int 0]))] sz) := by
  refine Met.ofW (cc := cX9_addInput) (maxL := 1) (ret := (some .int)) (by decide) rfl ?_
  intro p e s m args below meth c s₁ B hml hv
  obtain ⟨rfl, hsz, hP, hK, hD0, hX, hT⟩ := hv
  have hx := B.exec
  have hb := B.bytes
  have hr := B.returns
  have hts0 := atoms_spec (ws := .code yX9_addInput cX9_addInput 1 (some .int) :: wsL_law) B.pre
  have hts := xTail hts0
  have hown : s.vm.findClass RX9 = some m.cls := findClass_of_methodNamed B.named
  have hlocks := B.notSynchronized
  subst hsz
  have hD := hD0.self (sz := s.heap.size)
  generalize hAe : va_A [(h0, .inr (8, [.int 0, .ref h1, .ref h2, .ref o0, .ref h3, .int 0])), (h1, .inr (0, [.int 0, .ref z.1, .int 0])), (h2, .inr (0, [.int 0, .ref z.1, .int 0])), (h3, .inr (0, [.int 0, .ref z.1, .int 0]))] s.heap.size = A at hD hX ⊢
  have hA : ∀ q : Nat, s.heap.size ≤ q → A q := fun q h => by rw [← hAe]; exact Or.inr h
  have hS : va_S A s.heap s.heap [] := va_S.rf
  have hG : s.heap.size + 0 ≤ s.heap.size := Nat.le_refl _
  have hl := lv_entry ([.ref h0]) (n := 1) (Nat.le_of_ble_eq_true rfl)
  rw [lg_entry_eq]
  generalize (lg_sl ([.ref h0]) ++ List.replicate (1 - (lg_sl ([.ref h0])).length) Slot.unset).toArray = ls at hl ⊢
  have hl : lv_has ls 1 [(0, .ref h0)] := hl
  refine lv_aload_n hx hb dX9_addInput_0 rfl (lv_at hl 0 rfl) ?_
  refine lv_iconst (v := 0) hx hb dX9_addInput_1 (by decide) ?_
  refine va_put (D := (dC, dI)) (ci := 8) (v := .int 0) (ty := .int) (C := RX9) (T := TX9) (N := 6) hx hb hts in_X9 tyX9 tyX9_ok nmX9 hown hK hP hD (va_Sre hS) 0 rfl rfl 0 (by decide) (hts _ q_243) (fun _ h9 => h9) rfl (by decide +kernel) rfl rfl (Nat.le_of_ble_eq_true rfl) dX9_addInput_2 (fun H1 _ hP hD hS' => ?_)
  have hG : s.heap.size + 0 ≤ H1.size := Nat.le_trans hG hS'.1
  have hS := va_Str hS hS'
  have hP : va_P (dC, dI) xCl [(h0, .inr (8, [.int 0, .ref h1, .ref h2, .ref o0, .ref h3, .int 0])), (h1, .inr (0, [.int 0, .ref z.1, .int 0])), (h2, .inr (0, [.int 0, .ref z.1, .int 0])), (h3, .inr (0, [.int 0, .ref z.1, .int 0]))] H1 := hP
  have hD : va_D A [(h0, .inr (8, [.int 0, .ref h1, .ref h2, .ref o0, .ref h3, .int 0])), (h1, .inr (0, [.int 0, .ref z.1, .int 0])), (h2, .inr (0, [.int 0, .ref z.1, .int 0])), (h3, .inr (0, [.int 0, .ref z.1, .int 0]))] := hD
  refine lv_aload_n hx hb dX9_addInput_5 rfl (lv_at hl 0 rfl) ?_
  refine lv_bipush (v := 105) hx hb dX9_addInput_6 (by decide) ?_
  have hF2 := va_free (wc := [(h0, .inr (8, [.int 0, .ref h1, .ref h2, .ref o0, .ref h3, .int 0])), (h1, .inr (0, [.int 0, .ref z.1, .int 0])), (h2, .inr (0, [.int 0, .ref z.1, .int 0])), (h3, .inr (0, [.int 0, .ref z.1, .int 0]))]) hD hS hA [0, 1, 2, 3] rfl
  refine va_calli (va_runV (As := [.int 105]) (rest := []) ⟨hx, hb, hml, hown, hts⟩ (k78_addSource l hl9 dC dI z h0 h1 h2 h3 o0 H1.size) (cwV 1 hts (gV q_336 q_337 q_338 q_60 q_335) rfl rfl rfl (by decide +kernel) ⟨Nat.le_of_ble_eq_true rfl, Nat.le_of_ble_eq_true rfl⟩) ⟨pc_blind, va_recv hK hP (ci := 8) (q0 := 0) rfl rfl, fun U hU hW => ⟨rfl, pc_mk hP hD hK hS hX hT [0, 1, 2, 3] [] rfl rfl rfl rfl hF2 hU hW⟩⟩ rfl rfl hl.1 rfl (lv_room (Nat.le_of_ble_eq_true rfl)) dX9_addInput_8 ⟨(Nat.le_of_ble_eq_true rfl), (Nat.le_of_ble_eq_true rfl)⟩) hS (fun q9 _ h9 => hF2 q9 h9) hF2 (fun r5 u4 t4 H4 L4 ht4 hvm4 hw4 hB4 hz4 hk4 hS => ?_)
  obtain ⟨a6, a7, a8, k9, k10, hB4⟩ := hB4
  obtain ⟨hP, hD, hK⟩ := pq_join (wr := []) (tr := []) (wz := [(h0, .inr (8, [.int 0, .ref h1, .ref h2, .ref o0, .ref h3, .int 0])), (h1, .inr (0, [.int 1, .ref a6, .int 1])), (h2, .inr (0, [.int 0, .ref z.1, .int 0])), (h3, .inr (0, [.int 2, .ref a7, .int 1])), (a6, .inl (k9, 10, .inr (.inr (.inr (.inr (va_up (fun _ => none) 0 (some a8))))))), (a7, .inl (k10, 10, .inr (.inr (.inr (.inr (va_up (fun _ => none) 0 (some (z.2.2.1 128)))))))), (a8, .inr (7, [.int 105, .int 120, .int 0, .int (-1), .int 0, .int (-1)]))]) (tz := [(k9, .object "java/lang/Object"), (k10, .object "java/lang/Object")]) hP hD hK [0, 1, 2, 3] [] [] rfl rfl (by decide) (by decide) rfl hk4 hF2 hB4.1 ht4 hvm4 rfl rfl
  have hG : s.heap.size + 12 ≤ H4.size := va_gr (g := 0) (g1 := 12) hG (by rw [← ht4]; exact hB4.2)
  refine W.eq (g2 := F0 m 11 ls [.int 0]) (by rw [hw4]) ?_
  refine W.widen (k := 12) (n := 170) (by decide) (by decide) ?_
  exact W.iret (v := 0) hx hb hr (fun t9 ht9 hW9 => ⟨⟨0, (), rfl, rfl, ⟨a6, a7, a8, k9, k10, ⟨pq_mk (wc := [(h0, .inr (8, [.int 0, .ref h1, .ref h2, .ref o0, .ref h3, .int 0])), (h1, .inr (0, [.int 1, .ref a6, .int 1])), (h2, .inr (0, [.int 0, .ref z.1, .int 0])), (h3, .inr (0, [.int 2, .ref a7, .int 1])), (a6, .inl (k9, 10, .inr (.inr (.inr (.inr (va_up (fun _ => none) 0 (some a8))))))), (a7, .inl (k10, 10, .inr (.inr (.inr (.inr (va_up (fun _ => none) 0 (some (z.2.2.1 128)))))))), (a8, .inr (7, [.int 105, .int 120, .int 0, .int (-1), .int 0, .int (-1)]))]) (tc := [(k9, .object "java/lang/Object"), (k10, .object "java/lang/Object")]) hP hD hK [0, 1, 2, 3, 4, 5, 6] [0, 1] rfl rfl rfl rfl ht9 hW9, by rw [ht9]; exact Nat.le_trans (Nat.add_le_add_left (Nat.le_of_ble_eq_true rfl) _) hG⟩⟩⟩, hS.F ht9⟩) hS.2.2 dX9_addInput_11

set_option maxHeartbeats 4000000 in
set_option maxRecDepth 100000 in
theorem k80_requireRoomForSource (l : Launch) (hl9 : l.stackTraces = false) (dC : Nat → ClassId) (dI : Nat → Nat → Nat) (z : XZ) (h0 h1 h2 : Nat) (o0 o1 o2 o3 o4 o5 : Nat) (sz : Nat) : Met l yX6_requireRoomForSource (.code yX6_requireRoomForSource cX6_requireRoomForSource 1 none :: wsL_law) ({ frames := 1, cells := 0, slots := 0, locals := 20 }) (va_Pc [.ref h0] (PC (dC, dI) [(h0, .inr (6, [.ref h1, .ref o0, .ref o1])), (h1, .inr (2, [.ref o2, .ref h2, .ref o3, .ref o4])), (h2, .inr (0, [.int 1, .ref o5, .int 1]))] [] sz z)) (va_Qv (fun (_ : Unit) => True) (fun (_ : Unit) (t : State) => PG (dC, dI) [(h0, .inr (6, [.ref h1, .ref o0, .ref o1])), (h1, .inr (2, [.ref o2, .ref h2, .ref o3, .ref o4])), (h2, .inr (0, [.int 1, .ref o5, .int 1]))] [] (va_A [(h0, .inr (6, [.ref h1, .ref o0, .ref o1])), (h1, .inr (2, [.ref o2, .ref h2, .ref o3, .ref o4])), (h2, .inr (0, [.int 1, .ref o5, .int 1]))] sz) sz 0 t) (va_A [(h0, .inr (6, [.ref h1, .ref o0, .ref o1])), (h1, .inr (2, [.ref o2, .ref h2, .ref o3, .ref o4])), (h2, .inr (0, [.int 1, .ref o5, .int 1]))] sz)) 0 0 (va_A [(h0, .inr (6, [.ref h1, .ref o0, .ref o1])), (h1, .inr (2, [.ref o2, .ref h2, .ref o3, .ref o4])), (h2, .inr (0, [.int 1, .ref o5, .int 1]))] sz) := by
  refine Met.ofW (cc := cX6_requireRoomForSource) (maxL := 1) (ret := none) (by decide) rfl ?_
  intro p e s m args below meth c s₁ B hml hv
  obtain ⟨rfl, hsz, hP, hK, hD0, hX, hT⟩ := hv
  have hx := B.exec
  have hb := B.bytes
  have hr := B.returns
  have hts0 := atoms_spec (ws := .code yX6_requireRoomForSource cX6_requireRoomForSource 1 none :: wsL_law) B.pre
  have hts := xTail hts0
  have hown : s.vm.findClass RX6 = some m.cls := findClass_of_methodNamed B.named
  have hlocks := B.notSynchronized
  subst hsz
  have hD := hD0.self (sz := s.heap.size)
  generalize hAe : va_A [(h0, .inr (6, [.ref h1, .ref o0, .ref o1])), (h1, .inr (2, [.ref o2, .ref h2, .ref o3, .ref o4])), (h2, .inr (0, [.int 1, .ref o5, .int 1]))] s.heap.size = A at hD hX ⊢
  have hA : ∀ q : Nat, s.heap.size ≤ q → A q := fun q h => by rw [← hAe]; exact Or.inr h
  have hS : va_S A s.heap s.heap [] := va_S.rf
  have hG : s.heap.size + 0 ≤ s.heap.size := Nat.le_refl _
  have hl := lv_entry ([.ref h0]) (n := 1) (Nat.le_of_ble_eq_true rfl)
  rw [lg_entry_eq]
  generalize (lg_sl ([.ref h0]) ++ List.replicate (1 - (lg_sl ([.ref h0])).length) Slot.unset).toArray = ls at hl ⊢
  have hl : lv_has ls 1 [(0, .ref h0)] := hl
  refine lv_aload_n hx hb dX6_requireRoomForSource_0 rfl (lv_at hl 0 rfl) ?_
  refine va_get (D := (dC, dI)) (ci := 6) (v := .ref h1) (C := RX6) (T := TX6) (N := 3) hx hb hts in_X6 hown hK hP 0 rfl rfl 0 (by decide) (hts _ q_34) (fun _ h9 => h9) rfl dX6_requireRoomForSource_1 ?_
  refine va_get (D := (dC, dI)) (ci := 2) (v := .ref h2) (C := RX0) (T := TX0) (N := 4) hx hb hts in_X0 hown hK hP 1 rfl rfl 1 (by decide) (hts _ q_73) (fun _ h9 => h9) rfl dX6_requireRoomForSource_4 ?_
  have hF1 := va_free (wc := [(h2, .inr (0, [.int 1, .ref o5, .int 1]))]) hD hS hA [2] rfl
  refine va_calli (va_runV (As := []) (rest := []) ⟨hx, hb, hml, hown, hts⟩ (k20_size l hl9 dC dI z h2 o5 s.heap.size 1 1) (cwV 0 hts (gV q_76 q_77 q_78 q_12 q_75) rfl rfl rfl (by decide +kernel) ⟨Nat.le_of_ble_eq_true rfl, Nat.le_of_ble_eq_true rfl⟩) ⟨pc_blind, va_recv hK hP (ci := 0) (q0 := 2) rfl rfl, fun U hU hW => ⟨rfl, pc_mk hP hD hK hS hX hT [2] [] rfl rfl rfl rfl hF1 hU hW⟩⟩ rfl rfl hl.1 rfl (lv_room (Nat.le_of_ble_eq_true rfl)) dX6_requireRoomForSource_7 ⟨(Nat.le_of_ble_eq_true rfl), (Nat.le_of_ble_eq_true rfl)⟩) hS (fun q9 _ h9 => hF1 q9 h9) hF1 (fun r4 u3 t3 H3 L3 ht3 hvm3 hw3 hB3 hz3 hk3 hS => ?_)
  obtain ⟨hP, hD, hK⟩ := pq_join (wr := [(h0, .inr (6, [.ref h1, .ref o0, .ref o1])), (h1, .inr (2, [.ref o2, .ref h2, .ref o3, .ref o4]))]) (tr := []) (wz := [(h0, .inr (6, [.ref h1, .ref o0, .ref o1])), (h1, .inr (2, [.ref o2, .ref h2, .ref o3, .ref o4])), (h2, .inr (0, [.int 1, .ref o5, .int 1]))]) (tz := []) hP hD hK [2] [0, 1] [] rfl rfl (by decide) (by decide) rfl hk3 hF1 hB3.1 ht3 hvm3 rfl rfl
  have hG : s.heap.size + 0 ≤ H3.size := Nat.le_trans hG hz3
  refine W.eq (g2 := F0 m 10 ls [.int 1]) (by rw [hw3]) ?_
  refine lv_bipush (v := 8) hx hb dX6_requireRoomForSource_10 (by decide) ?_
  refine lv_icmp_lt (tgt := 26) hx hb dX6_requireRoomForSource_12 (by decide) (fun _ => ?_) (fun cz => absurd (by decide) cz)
  exact W.vret hx hb hr (fun t9 ht9 hW9 => ⟨⟨(), rfl, trivial, ⟨pq_mk (wc := [(h0, .inr (6, [.ref h1, .ref o0, .ref o1])), (h1, .inr (2, [.ref o2, .ref h2, .ref o3, .ref o4])), (h2, .inr (0, [.int 1, .ref o5, .int 1]))]) (tc := []) hP hD hK [0, 1, 2] [] rfl rfl rfl rfl ht9 hW9, by rw [ht9]; exact Nat.le_trans (Nat.add_le_add_left (Nat.le_of_ble_eq_true rfl) _) hG⟩⟩, hS.F ht9⟩) hS.2.2 dX6_requireRoomForSource_26

set_option maxHeartbeats 4000000 in
set_option maxRecDepth 100000 in
theorem k81_requireRoomForNet (l : Launch) (hl9 : l.stackTraces = false) (dC : Nat → ClassId) (dI : Nat → Nat → Nat) (z : XZ) (h0 h1 h2 : Nat) (o0 o1 o2 o3 o4 o5 : Nat) (sz : Nat) : Met l yX6_requireRoomForNet (.code yX6_requireRoomForNet cX6_requireRoomForNet 1 none :: wsL_law) ({ frames := 1, cells := 0, slots := 0, locals := 20 }) (va_Pc [.ref h0] (PC (dC, dI) [(h0, .inr (6, [.ref h1, .ref o0, .ref o1])), (h1, .inr (2, [.ref h2, .ref o2, .ref o3, .ref o4])), (h2, .inr (0, [.int 1, .ref o5, .int 1]))] [] sz z)) (va_Qv (fun (_ : Unit) => True) (fun (_ : Unit) (t : State) => PG (dC, dI) [(h0, .inr (6, [.ref h1, .ref o0, .ref o1])), (h1, .inr (2, [.ref h2, .ref o2, .ref o3, .ref o4])), (h2, .inr (0, [.int 1, .ref o5, .int 1]))] [] (va_A [(h0, .inr (6, [.ref h1, .ref o0, .ref o1])), (h1, .inr (2, [.ref h2, .ref o2, .ref o3, .ref o4])), (h2, .inr (0, [.int 1, .ref o5, .int 1]))] sz) sz 0 t) (va_A [(h0, .inr (6, [.ref h1, .ref o0, .ref o1])), (h1, .inr (2, [.ref h2, .ref o2, .ref o3, .ref o4])), (h2, .inr (0, [.int 1, .ref o5, .int 1]))] sz)) 0 0 (va_A [(h0, .inr (6, [.ref h1, .ref o0, .ref o1])), (h1, .inr (2, [.ref h2, .ref o2, .ref o3, .ref o4])), (h2, .inr (0, [.int 1, .ref o5, .int 1]))] sz) := by
  refine Met.ofW (cc := cX6_requireRoomForNet) (maxL := 1) (ret := none) (by decide) rfl ?_
  intro p e s m args below meth c s₁ B hml hv
  obtain ⟨rfl, hsz, hP, hK, hD0, hX, hT⟩ := hv
  have hx := B.exec
  have hb := B.bytes
  have hr := B.returns
  have hts0 := atoms_spec (ws := .code yX6_requireRoomForNet cX6_requireRoomForNet 1 none :: wsL_law) B.pre
  have hts := xTail hts0
  have hown : s.vm.findClass RX6 = some m.cls := findClass_of_methodNamed B.named
  have hlocks := B.notSynchronized
  subst hsz
  have hD := hD0.self (sz := s.heap.size)
  generalize hAe : va_A [(h0, .inr (6, [.ref h1, .ref o0, .ref o1])), (h1, .inr (2, [.ref h2, .ref o2, .ref o3, .ref o4])), (h2, .inr (0, [.int 1, .ref o5, .int 1]))] s.heap.size = A at hD hX ⊢
  have hA : ∀ q : Nat, s.heap.size ≤ q → A q := fun q h => by rw [← hAe]; exact Or.inr h
  have hS : va_S A s.heap s.heap [] := va_S.rf
  have hG : s.heap.size + 0 ≤ s.heap.size := Nat.le_refl _
  have hl := lv_entry ([.ref h0]) (n := 1) (Nat.le_of_ble_eq_true rfl)
  rw [lg_entry_eq]
  generalize (lg_sl ([.ref h0]) ++ List.replicate (1 - (lg_sl ([.ref h0])).length) Slot.unset).toArray = ls at hl ⊢
  have hl : lv_has ls 1 [(0, .ref h0)] := hl
  refine lv_aload_n hx hb dX6_requireRoomForNet_0 rfl (lv_at hl 0 rfl) ?_
  refine va_get (D := (dC, dI)) (ci := 6) (v := .ref h1) (C := RX6) (T := TX6) (N := 3) hx hb hts in_X6 hown hK hP 0 rfl rfl 0 (by decide) (hts _ q_34) (fun _ h9 => h9) rfl dX6_requireRoomForNet_1 ?_
  refine va_get (D := (dC, dI)) (ci := 2) (v := .ref h2) (C := RX0) (T := TX0) (N := 4) hx hb hts in_X0 hown hK hP 1 rfl rfl 0 (by decide) (hts _ q_83) (fun _ h9 => h9) rfl dX6_requireRoomForNet_4 ?_
  have hF1 := va_free (wc := [(h2, .inr (0, [.int 1, .ref o5, .int 1]))]) hD hS hA [2] rfl
  refine va_calli (va_runV (As := []) (rest := []) ⟨hx, hb, hml, hown, hts⟩ (k20_size l hl9 dC dI z h2 o5 s.heap.size 1 1) (cwV 0 hts (gV q_76 q_77 q_78 q_12 q_75) rfl rfl rfl (by decide +kernel) ⟨Nat.le_of_ble_eq_true rfl, Nat.le_of_ble_eq_true rfl⟩) ⟨pc_blind, va_recv hK hP (ci := 0) (q0 := 2) rfl rfl, fun U hU hW => ⟨rfl, pc_mk hP hD hK hS hX hT [2] [] rfl rfl rfl rfl hF1 hU hW⟩⟩ rfl rfl hl.1 rfl (lv_room (Nat.le_of_ble_eq_true rfl)) dX6_requireRoomForNet_7 ⟨(Nat.le_of_ble_eq_true rfl), (Nat.le_of_ble_eq_true rfl)⟩) hS (fun q9 _ h9 => hF1 q9 h9) hF1 (fun r4 u3 t3 H3 L3 ht3 hvm3 hw3 hB3 hz3 hk3 hS => ?_)
  obtain ⟨hP, hD, hK⟩ := pq_join (wr := [(h0, .inr (6, [.ref h1, .ref o0, .ref o1])), (h1, .inr (2, [.ref h2, .ref o2, .ref o3, .ref o4]))]) (tr := []) (wz := [(h0, .inr (6, [.ref h1, .ref o0, .ref o1])), (h1, .inr (2, [.ref h2, .ref o2, .ref o3, .ref o4])), (h2, .inr (0, [.int 1, .ref o5, .int 1]))]) (tz := []) hP hD hK [2] [0, 1] [] rfl rfl (by decide) (by decide) rfl hk3 hF1 hB3.1 ht3 hvm3 rfl rfl
  have hG : s.heap.size + 0 ≤ H3.size := Nat.le_trans hG hz3
  refine W.eq (g2 := F0 m 10 ls [.int 1]) (by rw [hw3]) ?_
  refine lv_bipush (v := 40) hx hb dX6_requireRoomForNet_10 (by decide) ?_
  refine lv_icmp_lt (tgt := 26) hx hb dX6_requireRoomForNet_12 (by decide) (fun _ => ?_) (fun cz => absurd (by decide) cz)
  exact W.vret hx hb hr (fun t9 ht9 hW9 => ⟨⟨(), rfl, trivial, ⟨pq_mk (wc := [(h0, .inr (6, [.ref h1, .ref o0, .ref o1])), (h1, .inr (2, [.ref h2, .ref o2, .ref o3, .ref o4])), (h2, .inr (0, [.int 1, .ref o5, .int 1]))]) (tc := []) hP hD hK [0, 1, 2] [] rfl rfl rfl rfl ht9 hW9, by rw [ht9]; exact Nat.le_trans (Nat.add_le_add_left (Nat.le_of_ble_eq_true rfl) _) hG⟩⟩, hS.F ht9⟩) hS.2.2 dX6_requireRoomForNet_26

set_option maxHeartbeats 4000000 in
set_option maxRecDepth 100000 in
theorem k82_init (l : Launch) (hl9 : l.stackTraces = false) (dC : Nat → ClassId) (dI : Nat → Nat → Nat) (z : XZ) (h0 : Nat) (sz : Nat) : Met l yX2_init (.code yX2_init cX2_init 3 none :: wsL_law) ({ frames := 4, cells := 1, slots := 3, locals := 76 }) (va_Pc [.ref h0, .int 1, .ref (z.2.1 0)] (PC (dC, dI) [(h0, .inr (3, [.int 0, .null, .null, .null, .int 0, .int 0, .int 0, .int 0, .int 0, .int 0, .int 0, .int 0, .int 0, .int 0, .int 0, .int 0, .null, .int 0, .int 0]))] [] sz z)) (va_Qv (fun (_ : Unit) => True) (fun (_ : Unit) (t : State) => ∃ (n0 : Nat), PG (dC, dI) [(h0, .inr (3, [.int 1, .ref (z.2.1 0), .ref n0, .null, .int 0, .int 0, .int 120, .int 120, .int 0, .int 0, .int 0, .int 120, .int 120, .int 0, .int 0, .int 0, .ref h0, .int 0, .int 0])), (n0, .inr (0, [.int 0, .ref z.1, .int 0]))] [] (va_A [(h0, .inr (3, [.int 0, .null, .null, .null, .int 0, .int 0, .int 0, .int 0, .int 0, .int 0, .int 0, .int 0, .int 0, .int 0, .int 0, .int 0, .null, .int 0, .int 0]))] sz) sz 1 t) (va_A [(h0, .inr (3, [.int 0, .null, .null, .null, .int 0, .int 0, .int 0, .int 0, .int 0, .int 0, .int 0, .int 0, .int 0, .int 0, .int 0, .int 0, .null, .int 0, .int 0]))] sz)) 1 3 (va_A [(h0, .inr (3, [.int 0, .null, .null, .null, .int 0, .int 0, .int 0, .int 0, .int 0, .int 0, .int 0, .int 0, .int 0, .int 0, .int 0, .int 0, .null, .int 0, .int 0]))] sz) := by
  refine Met.ofW (cc := cX2_init) (maxL := 3) (ret := none) (by decide) rfl ?_
  intro p e s m args below meth c s₁ B hml hv
  obtain ⟨rfl, hsz, hP, hK, hD0, hX, hT⟩ := hv
  have hx := B.exec
  have hb := B.bytes
  have hr := B.returns
  have hts0 := atoms_spec (ws := .code yX2_init cX2_init 3 none :: wsL_law) B.pre
  have hts := xTail hts0
  have hown : s.vm.findClass RX2 = some m.cls := findClass_of_methodNamed B.named
  have hlocks := B.notSynchronized
  have hin : meth.name = "<init>" := (name_of_methodNamed B.named B.method).1
  subst hsz
  have hD := hD0.self (sz := s.heap.size)
  generalize hAe : va_A [(h0, .inr (3, [.int 0, .null, .null, .null, .int 0, .int 0, .int 0, .int 0, .int 0, .int 0, .int 0, .int 0, .int 0, .int 0, .int 0, .int 0, .null, .int 0, .int 0]))] s.heap.size = A at hD hX ⊢
  have hA : ∀ q : Nat, s.heap.size ≤ q → A q := fun q h => by rw [← hAe]; exact Or.inr h
  have hS : va_S A s.heap s.heap [] := va_S.rf
  have hG : s.heap.size + 0 ≤ s.heap.size := Nat.le_refl _
  have hl := lv_entry ([.ref h0, .int 1, .ref (z.2.1 0)]) (n := 3) (Nat.le_of_ble_eq_true rfl)
  rw [lg_entry_eq]
  generalize (lg_sl ([.ref h0, .int 1, .ref (z.2.1 0)]) ++ List.replicate (3 - (lg_sl ([.ref h0, .int 1, .ref (z.2.1 0)])).length) Slot.unset).toArray = ls at hl ⊢
  have hl : lv_has ls 3 [(0, .ref h0), (1, .int 1), (2, .ref (z.2.1 0))] := hl
  refine lv_aload_n hx hb dX2_init_0 rfl (lv_at hl 0 rfl) ?_
  refine W.objInit hx hb hown (hts _ q_93) (hts _ q_4) (hts _ q_5) rfl (by rw [hml]; exact hl.1) rfl dX2_init_1 (Nat.le_of_ble_eq_true rfl) (Nat.le_of_ble_eq_true rfl) ?_
  refine W.eq (g2 := F0 m 4 ls []) rfl ?_
  refine lv_aload_n hx hb dX2_init_4 rfl (lv_at hl 0 rfl) ?_
  refine xa_new (ci := 0) (fs := [.int 0, .null, .int 0]) (C := RJx4a65c) (T := TJx4a65c) (N := 3) hx hb hts in_Jx4a65c tyJx4a65c tyJx4a65c_ok hown (hts _ q_94) (hts _ q_11) (hts _ q_12) hK hP hD hS hA rfl nf_Jx4a65c (Nat.le_of_ble_eq_true rfl) (Nat.le_of_ble_eq_true rfl) dX2_init_5 (fun a1 H2 hg8 hP hD hS => ?_)
  have hG : s.heap.size + 1 ≤ H2.size := by rw [hg8]; exact Nat.succ_le_succ hG
  have hP : va_P (dC, dI) xCl [(h0, .inr (3, [.int 0, .null, .null, .null, .int 0, .int 0, .int 0, .int 0, .int 0, .int 0, .int 0, .int 0, .int 0, .int 0, .int 0, .int 0, .null, .int 0, .int 0])), (a1, .inr (0, [.int 0, .null, .int 0]))] H2 := hP
  have hD : va_D A [(h0, .inr (3, [.int 0, .null, .null, .null, .int 0, .int 0, .int 0, .int 0, .int 0, .int 0, .int 0, .int 0, .int 0, .int 0, .int 0, .int 0, .null, .int 0, .int 0])), (a1, .inr (0, [.int 0, .null, .int 0]))] := hD
  refine W.widen (k := 1) (n := 3) (by decide) (by decide) ?_
  refine lv_dup hx hb dX2_init_8 rfl ?_
  have hF3 := va_free (wc := [(a1, .inr (0, [.int 0, .null, .int 0]))]) hD hS hA [1] rfl
  refine va_callv (va_runI (As := []) (rest := [.ref a1, .ref h0]) ⟨hx, hb, hml, hown, hts⟩ (k3_init l hl9 dC dI z a1 H2.size) (cwI 0 hts (gIL q_25) rfl rfl rfl (hts _ q_12) (hts _ q_95) (hts _ q_27) rfl (by decide +kernel) ⟨Nat.le_of_ble_eq_true rfl, Nat.le_of_ble_eq_true rfl⟩) ⟨pc_blind, fun U hU hW => ⟨rfl, pc_mk hP hD hK hS hX hT [1] [] rfl rfl rfl rfl hF3 hU hW⟩⟩ rfl rfl hl.1 rfl (lv_room (Nat.le_of_ble_eq_true rfl)) dX2_init_9 ⟨(Nat.le_of_ble_eq_true rfl), (Nat.le_of_ble_eq_true rfl)⟩) hS (fun q9 _ h9 => hF3 q9 h9) hF3 (fun u5 t5 H5 L5 ht5 hvm5 hw5 hB5 hz5 hk5 hS => ?_)
  obtain ⟨hP, hD, hK⟩ := pq_join (wr := [(h0, .inr (3, [.int 0, .null, .null, .null, .int 0, .int 0, .int 0, .int 0, .int 0, .int 0, .int 0, .int 0, .int 0, .int 0, .int 0, .int 0, .null, .int 0, .int 0]))]) (tr := []) (wz := [(h0, .inr (3, [.int 0, .null, .null, .null, .int 0, .int 0, .int 0, .int 0, .int 0, .int 0, .int 0, .int 0, .int 0, .int 0, .int 0, .int 0, .null, .int 0, .int 0])), (a1, .inr (0, [.int 0, .ref z.1, .int 0]))]) (tz := []) hP hD hK [1] [0] [] rfl rfl (by decide) (by decide) rfl hk5 hF3 hB5.1 ht5 hvm5 rfl rfl
  have hG : s.heap.size + 1 ≤ H5.size := Nat.le_trans hG hz5
  refine va_putF (D := (dC, dI)) (ci := 3) (v := .ref a1) (ty := .object "java/util/ArrayList") (C := RX2) (T := TX2) (N := 19) hx hb hts in_X2 tyX2 tyX2_ok nmX2 hown hK hP hD (va_Sre hS) 0 rfl rfl 2 (by decide) (hts _ q_96) (fun _ h9 => h9) rfl hin rfl (by decide +kernel) rfl rfl (Nat.le_of_ble_eq_true rfl) dX2_init_12 (fun H7 _ hP hD hS' => ?_)
  have hG : s.heap.size + 1 ≤ H7.size := Nat.le_trans hG hS'.1
  have hS := va_Str hS hS'
  have hP : va_P (dC, dI) xCl [(h0, .inr (3, [.int 0, .null, .ref a1, .null, .int 0, .int 0, .int 0, .int 0, .int 0, .int 0, .int 0, .int 0, .int 0, .int 0, .int 0, .int 0, .null, .int 0, .int 0])), (a1, .inr (0, [.int 0, .ref z.1, .int 0]))] H7 := hP
  have hD : va_D A [(h0, .inr (3, [.int 0, .null, .ref a1, .null, .int 0, .int 0, .int 0, .int 0, .int 0, .int 0, .int 0, .int 0, .int 0, .int 0, .int 0, .int 0, .null, .int 0, .int 0])), (a1, .inr (0, [.int 0, .ref z.1, .int 0]))] := hD
  refine lv_aload_n hx hb dX2_init_15 rfl (lv_at hl 0 rfl) ?_
  refine lv_iload_n hx hb dX2_init_16 rfl (lv_at hl 1 rfl) ?_
  refine va_putF (D := (dC, dI)) (ci := 3) (v := .int 1) (ty := .int) (C := RX2) (T := TX2) (N := 19) hx hb hts in_X2 tyX2 tyX2_ok nmX2 hown hK hP hD (va_Sre hS) 0 rfl rfl 0 (by decide) (hts _ q_97) (fun _ h9 => h9) rfl hin rfl (by decide +kernel) rfl rfl (Nat.le_of_ble_eq_true rfl) dX2_init_17 (fun H8 _ hP hD hS' => ?_)
  have hG : s.heap.size + 1 ≤ H8.size := Nat.le_trans hG hS'.1
  have hS := va_Str hS hS'
  have hP : va_P (dC, dI) xCl [(h0, .inr (3, [.int 1, .null, .ref a1, .null, .int 0, .int 0, .int 0, .int 0, .int 0, .int 0, .int 0, .int 0, .int 0, .int 0, .int 0, .int 0, .null, .int 0, .int 0])), (a1, .inr (0, [.int 0, .ref z.1, .int 0]))] H8 := hP
  have hD : va_D A [(h0, .inr (3, [.int 1, .null, .ref a1, .null, .int 0, .int 0, .int 0, .int 0, .int 0, .int 0, .int 0, .int 0, .int 0, .int 0, .int 0, .int 0, .null, .int 0, .int 0])), (a1, .inr (0, [.int 0, .ref z.1, .int 0]))] := hD
  refine lv_aload_n hx hb dX2_init_20 rfl (lv_at hl 0 rfl) ?_
  refine lv_aload_n hx hb dX2_init_21 rfl (lv_at hl 2 rfl) ?_
  refine va_putF (D := (dC, dI)) (ci := 3) (v := .ref (z.2.1 0)) (ty := .object "Deltacycle$NetKind") (C := RX2) (T := TX2) (N := 19) hx hb hts in_X2 tyX2 tyX2_ok nmX2 hown hK hP hD (va_Sre hS) 0 rfl rfl 1 (by decide) (hts _ q_98) (fun _ h9 => h9) rfl hin rfl (by decide +kernel) rfl rfl (Nat.le_of_ble_eq_true rfl) dX2_init_22 (fun H9 _ hP hD hS' => ?_)
  have hG : s.heap.size + 1 ≤ H9.size := Nat.le_trans hG hS'.1
  have hS := va_Str hS hS'
  have hP : va_P (dC, dI) xCl [(h0, .inr (3, [.int 1, .ref (z.2.1 0), .ref a1, .null, .int 0, .int 0, .int 0, .int 0, .int 0, .int 0, .int 0, .int 0, .int 0, .int 0, .int 0, .int 0, .null, .int 0, .int 0])), (a1, .inr (0, [.int 0, .ref z.1, .int 0]))] H9 := hP
  have hD : va_D A [(h0, .inr (3, [.int 1, .ref (z.2.1 0), .ref a1, .null, .int 0, .int 0, .int 0, .int 0, .int 0, .int 0, .int 0, .int 0, .int 0, .int 0, .int 0, .int 0, .null, .int 0, .int 0])), (a1, .inr (0, [.int 0, .ref z.1, .int 0]))] := hD
  refine lv_aload_n hx hb dX2_init_25 rfl (lv_at hl 0 rfl) ?_
  refine lv_bipush (v := 120) hx hb dX2_init_26 (by decide) ?_
  refine va_put (D := (dC, dI)) (ci := 3) (v := .int 120) (ty := .char) (C := RX2) (T := TX2) (N := 19) hx hb hts in_X2 tyX2 tyX2_ok nmX2 hown hK hP hD (va_Sre hS) 0 rfl rfl 6 (by decide) (hts _ q_99) (fun _ h9 => h9) rfl (by decide +kernel) rfl rfl (Nat.le_of_ble_eq_true rfl) dX2_init_28 (fun H10 _ hP hD hS' => ?_)
  have hG : s.heap.size + 1 ≤ H10.size := Nat.le_trans hG hS'.1
  have hS := va_Str hS hS'
  have hP : va_P (dC, dI) xCl [(h0, .inr (3, [.int 1, .ref (z.2.1 0), .ref a1, .null, .int 0, .int 0, .int 120, .int 0, .int 0, .int 0, .int 0, .int 0, .int 0, .int 0, .int 0, .int 0, .null, .int 0, .int 0])), (a1, .inr (0, [.int 0, .ref z.1, .int 0]))] H10 := hP
  have hD : va_D A [(h0, .inr (3, [.int 1, .ref (z.2.1 0), .ref a1, .null, .int 0, .int 0, .int 120, .int 0, .int 0, .int 0, .int 0, .int 0, .int 0, .int 0, .int 0, .int 0, .null, .int 0, .int 0])), (a1, .inr (0, [.int 0, .ref z.1, .int 0]))] := hD
  refine lv_aload_n hx hb dX2_init_31 rfl (lv_at hl 0 rfl) ?_
  refine lv_bipush (v := 120) hx hb dX2_init_32 (by decide) ?_
  refine va_put (D := (dC, dI)) (ci := 3) (v := .int 120) (ty := .char) (C := RX2) (T := TX2) (N := 19) hx hb hts in_X2 tyX2 tyX2_ok nmX2 hown hK hP hD (va_Sre hS) 0 rfl rfl 7 (by decide) (hts _ q_100) (fun _ h9 => h9) rfl (by decide +kernel) rfl rfl (Nat.le_of_ble_eq_true rfl) dX2_init_34 (fun H11 _ hP hD hS' => ?_)
  have hG : s.heap.size + 1 ≤ H11.size := Nat.le_trans hG hS'.1
  have hS := va_Str hS hS'
  have hP : va_P (dC, dI) xCl [(h0, .inr (3, [.int 1, .ref (z.2.1 0), .ref a1, .null, .int 0, .int 0, .int 120, .int 120, .int 0, .int 0, .int 0, .int 0, .int 0, .int 0, .int 0, .int 0, .null, .int 0, .int 0])), (a1, .inr (0, [.int 0, .ref z.1, .int 0]))] H11 := hP
  have hD : va_D A [(h0, .inr (3, [.int 1, .ref (z.2.1 0), .ref a1, .null, .int 0, .int 0, .int 120, .int 120, .int 0, .int 0, .int 0, .int 0, .int 0, .int 0, .int 0, .int 0, .null, .int 0, .int 0])), (a1, .inr (0, [.int 0, .ref z.1, .int 0]))] := hD
  refine lv_aload_n hx hb dX2_init_37 rfl (lv_at hl 0 rfl) ?_
  refine lv_bipush (v := 120) hx hb dX2_init_38 (by decide) ?_
  refine va_put (D := (dC, dI)) (ci := 3) (v := .int 120) (ty := .char) (C := RX2) (T := TX2) (N := 19) hx hb hts in_X2 tyX2 tyX2_ok nmX2 hown hK hP hD (va_Sre hS) 0 rfl rfl 11 (by decide) (hts _ q_101) (fun _ h9 => h9) rfl (by decide +kernel) rfl rfl (Nat.le_of_ble_eq_true rfl) dX2_init_40 (fun H12 _ hP hD hS' => ?_)
  have hG : s.heap.size + 1 ≤ H12.size := Nat.le_trans hG hS'.1
  have hS := va_Str hS hS'
  have hP : va_P (dC, dI) xCl [(h0, .inr (3, [.int 1, .ref (z.2.1 0), .ref a1, .null, .int 0, .int 0, .int 120, .int 120, .int 0, .int 0, .int 0, .int 120, .int 0, .int 0, .int 0, .int 0, .null, .int 0, .int 0])), (a1, .inr (0, [.int 0, .ref z.1, .int 0]))] H12 := hP
  have hD : va_D A [(h0, .inr (3, [.int 1, .ref (z.2.1 0), .ref a1, .null, .int 0, .int 0, .int 120, .int 120, .int 0, .int 0, .int 0, .int 120, .int 0, .int 0, .int 0, .int 0, .null, .int 0, .int 0])), (a1, .inr (0, [.int 0, .ref z.1, .int 0]))] := hD
  refine lv_aload_n hx hb dX2_init_43 rfl (lv_at hl 0 rfl) ?_
  refine lv_bipush (v := 120) hx hb dX2_init_44 (by decide) ?_
  refine va_put (D := (dC, dI)) (ci := 3) (v := .int 120) (ty := .char) (C := RX2) (T := TX2) (N := 19) hx hb hts in_X2 tyX2 tyX2_ok nmX2 hown hK hP hD (va_Sre hS) 0 rfl rfl 12 (by decide) (hts _ q_102) (fun _ h9 => h9) rfl (by decide +kernel) rfl rfl (Nat.le_of_ble_eq_true rfl) dX2_init_46 (fun H13 _ hP hD hS' => ?_)
  have hG : s.heap.size + 1 ≤ H13.size := Nat.le_trans hG hS'.1
  have hS := va_Str hS hS'
  have hP : va_P (dC, dI) xCl [(h0, .inr (3, [.int 1, .ref (z.2.1 0), .ref a1, .null, .int 0, .int 0, .int 120, .int 120, .int 0, .int 0, .int 0, .int 120, .int 120, .int 0, .int 0, .int 0, .null, .int 0, .int 0])), (a1, .inr (0, [.int 0, .ref z.1, .int 0]))] H13 := hP
  have hD : va_D A [(h0, .inr (3, [.int 1, .ref (z.2.1 0), .ref a1, .null, .int 0, .int 0, .int 120, .int 120, .int 0, .int 0, .int 0, .int 120, .int 120, .int 0, .int 0, .int 0, .null, .int 0, .int 0])), (a1, .inr (0, [.int 0, .ref z.1, .int 0]))] := hD
  refine lv_aload_n hx hb dX2_init_49 rfl (lv_at hl 0 rfl) ?_
  refine lv_aload_n hx hb dX2_init_50 rfl (lv_at hl 0 rfl) ?_
  refine va_put (D := (dC, dI)) (ci := 3) (v := .ref h0) (ty := .object "Deltacycle$Net") (C := RX2) (T := TX2) (N := 19) hx hb hts in_X2 tyX2 tyX2_ok nmX2 hown hK hP hD (va_Sre hS) 0 rfl rfl 16 (by decide) (hts _ q_103) (fun _ h9 => h9) rfl (by decide +kernel) rfl rfl (Nat.le_of_ble_eq_true rfl) dX2_init_51 (fun H14 _ hP hD hS' => ?_)
  have hG : s.heap.size + 1 ≤ H14.size := Nat.le_trans hG hS'.1
  have hS := va_Str hS hS'
  have hP : va_P (dC, dI) xCl [(h0, .inr (3, [.int 1, .ref (z.2.1 0), .ref a1, .null, .int 0, .int 0, .int 120, .int 120, .int 0, .int 0, .int 0, .int 120, .int 120, .int 0, .int 0, .int 0, .ref h0, .int 0, .int 0])), (a1, .inr (0, [.int 0, .ref z.1, .int 0]))] H14 := hP
  have hD : va_D A [(h0, .inr (3, [.int 1, .ref (z.2.1 0), .ref a1, .null, .int 0, .int 0, .int 120, .int 120, .int 0, .int 0, .int 0, .int 120, .int 120, .int 0, .int 0, .int 0, .ref h0, .int 0, .int 0])), (a1, .inr (0, [.int 0, .ref z.1, .int 0]))] := hD
  exact W.vret hx hb hr (fun t9 ht9 hW9 => ⟨⟨(), rfl, trivial, ⟨a1, ⟨pq_mk (wc := [(h0, .inr (3, [.int 1, .ref (z.2.1 0), .ref a1, .null, .int 0, .int 0, .int 120, .int 120, .int 0, .int 0, .int 0, .int 120, .int 120, .int 0, .int 0, .int 0, .ref h0, .int 0, .int 0])), (a1, .inr (0, [.int 0, .ref z.1, .int 0]))]) (tc := []) hP hD hK [0, 1] [] rfl rfl rfl rfl ht9 hW9, by rw [ht9]; exact Nat.le_trans (Nat.add_le_add_left (Nat.le_of_ble_eq_true rfl) _) hG⟩⟩⟩, hS.F ht9⟩) hS.2.2 dX2_init_54

set_option maxHeartbeats 4000000 in
set_option maxRecDepth 100000 in
theorem k83_add (l : Launch) (hl9 : l.stackTraces = false) (dC : Nat → ClassId) (dI : Nat → Nat → Nat) (z : XZ) (h0 h1 h2 : Nat) (o0 o1 : Nat) (sz : Nat) (kc0 : ClassId) : Met l yJx4a65c_add_72be8 (.code yJx4a65c_add_72be8 cJx4a65c_add_72be8 4 none :: wsL_law) ({ frames := 0, cells := 0, slots := 0, locals := 0 }) (va_Pc [.ref h0, .ref h1, .ref h2, .int 1] (PC (dC, dI) [(h0, .inr (0, [.int 2, .ref h2, .int 1])), (h1, .inr (3, [.int 1, .ref (z.2.1 0), .ref o0, .null, .int 0, .int 0, .int 120, .int 120, .int 0, .int 0, .int 0, .int 120, .int 120, .int 0, .int 0, .int 0, .ref h1, .int 0, .int 0])), (h2, .inl (kc0, 10, .inr (.inr (.inr (.inr (va_up (fun _ => none) 0 (some o1)))))))] [(kc0, .object "java/lang/Object")] sz z)) (va_Qv (fun (_ : Unit) => True) (fun (_ : Unit) (t : State) => PG (dC, dI) [(h0, .inr (0, [.int 2, .ref h2, .int 2])), (h1, .inr (3, [.int 1, .ref (z.2.1 0), .ref o0, .null, .int 0, .int 0, .int 120, .int 120, .int 0, .int 0, .int 0, .int 120, .int 120, .int 0, .int 0, .int 0, .ref h1, .int 0, .int 0])), (h2, .inl (kc0, 10, .inr (.inr (.inr (.inr (va_up (va_up (fun _ => none) 0 (some o1)) 1 (some h1)))))))] [(kc0, .object "java/lang/Object")] (va_A [(h0, .inr (0, [.int 2, .ref h2, .int 1])), (h1, .inr (3, [.int 1, .ref (z.2.1 0), .ref o0, .null, .int 0, .int 0, .int 120, .int 120, .int 0, .int 0, .int 0, .int 120, .int 120, .int 0, .int 0, .int 0, .ref h1, .int 0, .int 0])), (h2, .inl (kc0, 10, .inr (.inr (.inr (.inr (va_up (fun _ => none) 0 (some o1)))))))] sz) sz 0 t) (va_A [(h0, .inr (0, [.int 2, .ref h2, .int 1])), (h1, .inr (3, [.int 1, .ref (z.2.1 0), .ref o0, .null, .int 0, .int 0, .int 120, .int 120, .int 0, .int 0, .int 0, .int 120, .int 120, .int 0, .int 0, .int 0, .ref h1, .int 0, .int 0])), (h2, .inl (kc0, 10, .inr (.inr (.inr (.inr (va_up (fun _ => none) 0 (some o1)))))))] sz)) 0 0 (va_A [(h0, .inr (0, [.int 2, .ref h2, .int 1])), (h1, .inr (3, [.int 1, .ref (z.2.1 0), .ref o0, .null, .int 0, .int 0, .int 120, .int 120, .int 0, .int 0, .int 0, .int 120, .int 120, .int 0, .int 0, .int 0, .ref h1, .int 0, .int 0])), (h2, .inl (kc0, 10, .inr (.inr (.inr (.inr (va_up (fun _ => none) 0 (some o1)))))))] sz) := by
  refine Met.ofW (cc := cJx4a65c_add_72be8) (maxL := 4) (ret := none) (by decide) rfl ?_
  intro p e s m args below meth c s₁ B hml hv
  obtain ⟨rfl, hsz, hP, hK, hD0, hX, hT⟩ := hv
  have hx := B.exec
  have hb := B.bytes
  have hr := B.returns
  have hts0 := atoms_spec (ws := .code yJx4a65c_add_72be8 cJx4a65c_add_72be8 4 none :: wsL_law) B.pre
  have hts := xTail hts0
  have hown : s.vm.findClass RJx4a65c = some m.cls := findClass_of_methodNamed B.named
  have hlocks := B.notSynchronized
  subst hsz
  have hD := hD0.self (sz := s.heap.size)
  generalize hAe : va_A [(h0, .inr (0, [.int 2, .ref h2, .int 1])), (h1, .inr (3, [.int 1, .ref (z.2.1 0), .ref o0, .null, .int 0, .int 0, .int 120, .int 120, .int 0, .int 0, .int 0, .int 120, .int 120, .int 0, .int 0, .int 0, .ref h1, .int 0, .int 0])), (h2, .inl (kc0, 10, .inr (.inr (.inr (.inr (va_up (fun _ => none) 0 (some o1)))))))] s.heap.size = A at hD hX ⊢
  have hA : ∀ q : Nat, s.heap.size ≤ q → A q := fun q h => by rw [← hAe]; exact Or.inr h
  have hS : va_S A s.heap s.heap [] := va_S.rf
  have hG : s.heap.size + 0 ≤ s.heap.size := Nat.le_refl _
  have hl := lv_entry ([.ref h0, .ref h1, .ref h2, .int 1]) (n := 4) (Nat.le_of_ble_eq_true rfl)
  rw [lg_entry_eq]
  generalize (lg_sl ([.ref h0, .ref h1, .ref h2, .int 1]) ++ List.replicate (4 - (lg_sl ([.ref h0, .ref h1, .ref h2, .int 1])).length) Slot.unset).toArray = ls at hl ⊢
  have hl : lv_has ls 4 [(0, .ref h0), (1, .ref h1), (2, .ref h2), (3, .int 1)] := hl
  refine lv_iload_n hx hb dJx4a65c_add_72be8_0 rfl (lv_at hl 3 rfl) ?_
  refine lv_aload_n hx hb dJx4a65c_add_72be8_1 rfl (lv_at hl 2 rfl) ?_
  refine va_alen hx hb hK hP 2 0 rfl rfl (v := 10) rfl dJx4a65c_add_72be8_2 ?_
  refine lv_icmp_ne (tgt := 11) hx hb dJx4a65c_add_72be8_3 (by decide) (fun _ => ?_) (fun cz => absurd cz (by decide))
  refine lv_aload_n hx hb dJx4a65c_add_72be8_11 rfl (lv_at hl 2 rfl) ?_
  refine lv_iload_n hx hb dJx4a65c_add_72be8_12 rfl (lv_at hl 3 rfl) ?_
  refine lv_aload_n hx hb dJx4a65c_add_72be8_13 rfl (lv_at hl 1 rfl) ?_
  refine vb_astq (E := "java/lang/Object") (C := RX2) hx hb hK hP hD (va_Sre hS) 2 0 rfl rfl (va_recv hK hP (ci := 3) (q0 := 1) rfl rfl) (vb_asgC (hT.2.1.1 (RX2, "java/lang/Object") (by decide))) (i := 1) (by unfold vp_in; decide) dJx4a65c_add_72be8_14 (fun H1 _ hP hD hS' => ?_)
  have hG : s.heap.size + 0 ≤ H1.size := Nat.le_trans hG hS'.1
  have hS := va_Str hS hS'
  have hP : va_P (dC, dI) xCl [(h0, .inr (0, [.int 2, .ref h2, .int 1])), (h1, .inr (3, [.int 1, .ref (z.2.1 0), .ref o0, .null, .int 0, .int 0, .int 120, .int 120, .int 0, .int 0, .int 0, .int 120, .int 120, .int 0, .int 0, .int 0, .ref h1, .int 0, .int 0])), (h2, .inl (kc0, 10, .inr (.inr (.inr (.inr (va_up (va_up (fun _ => none) 0 (some o1)) 1 (some h1)))))))] H1 := hP
  have hD : va_D A [(h0, .inr (0, [.int 2, .ref h2, .int 1])), (h1, .inr (3, [.int 1, .ref (z.2.1 0), .ref o0, .null, .int 0, .int 0, .int 120, .int 120, .int 0, .int 0, .int 0, .int 120, .int 120, .int 0, .int 0, .int 0, .ref h1, .int 0, .int 0])), (h2, .inl (kc0, 10, .inr (.inr (.inr (.inr (va_up (va_up (fun _ => none) 0 (some o1)) 1 (some h1)))))))] := hD
  refine lv_aload_n hx hb dJx4a65c_add_72be8_15 rfl (lv_at hl 0 rfl) ?_
  refine lv_iload_n hx hb dJx4a65c_add_72be8_16 rfl (lv_at hl 3 rfl) ?_
  refine lv_iconst (v := 1) hx hb dJx4a65c_add_72be8_17 (by decide) ?_
  refine lv_iadd hx hb dJx4a65c_add_72be8_18 ?_
  refine lv_topi (fun y2 ey2 => ?_)
  obtain rfl : y2 = 2 := ey2.trans (by decide)
  refine va_put (D := (dC, dI)) (ci := 0) (v := .int 2) (ty := .int) (C := RJx4a65c) (T := TJx4a65c) (N := 3) hx hb hts in_Jx4a65c tyJx4a65c tyJx4a65c_ok nmJx4a65c hown hK hP hD (va_Sre hS) 0 rfl rfl 2 (by decide) (hts _ q_74) (fun _ h9 => h9) rfl (by decide +kernel) rfl rfl (Nat.le_of_ble_eq_true rfl) dJx4a65c_add_72be8_19 (fun H3 _ hP hD hS' => ?_)
  have hG : s.heap.size + 0 ≤ H3.size := Nat.le_trans hG hS'.1
  have hS := va_Str hS hS'
  have hP : va_P (dC, dI) xCl [(h0, .inr (0, [.int 2, .ref h2, .int 2])), (h1, .inr (3, [.int 1, .ref (z.2.1 0), .ref o0, .null, .int 0, .int 0, .int 120, .int 120, .int 0, .int 0, .int 0, .int 120, .int 120, .int 0, .int 0, .int 0, .ref h1, .int 0, .int 0])), (h2, .inl (kc0, 10, .inr (.inr (.inr (.inr (va_up (va_up (fun _ => none) 0 (some o1)) 1 (some h1)))))))] H3 := hP
  have hD : va_D A [(h0, .inr (0, [.int 2, .ref h2, .int 2])), (h1, .inr (3, [.int 1, .ref (z.2.1 0), .ref o0, .null, .int 0, .int 0, .int 120, .int 120, .int 0, .int 0, .int 0, .int 120, .int 120, .int 0, .int 0, .int 0, .ref h1, .int 0, .int 0])), (h2, .inl (kc0, 10, .inr (.inr (.inr (.inr (va_up (va_up (fun _ => none) 0 (some o1)) 1 (some h1)))))))] := hD
  exact W.vret hx hb hr (fun t9 ht9 hW9 => ⟨⟨(), rfl, trivial, ⟨pq_mk (wc := [(h0, .inr (0, [.int 2, .ref h2, .int 2])), (h1, .inr (3, [.int 1, .ref (z.2.1 0), .ref o0, .null, .int 0, .int 0, .int 120, .int 120, .int 0, .int 0, .int 0, .int 120, .int 120, .int 0, .int 0, .int 0, .ref h1, .int 0, .int 0])), (h2, .inl (kc0, 10, .inr (.inr (.inr (.inr (va_up (va_up (fun _ => none) 0 (some o1)) 1 (some h1)))))))]) (tc := [(kc0, .object "java/lang/Object")]) hP hD hK [0, 1, 2] [0] rfl rfl rfl rfl ht9 hW9, by rw [ht9]; exact Nat.le_trans (Nat.add_le_add_left (Nat.le_of_ble_eq_true rfl) _) hG⟩⟩, hS.F ht9⟩) hS.2.2 dJx4a65c_add_72be8_22

set_option maxHeartbeats 4000000 in
set_option maxRecDepth 100000 in
theorem k84_add (l : Launch) (hl9 : l.stackTraces = false) (dC : Nat → ClassId) (dI : Nat → Nat → Nat) (z : XZ) (h0 h1 h2 : Nat) (o0 o1 : Nat) (sz : Nat) (kc0 : ClassId) : Met l yJx4a65c_add_9ea2d (.code yJx4a65c_add_9ea2d cJx4a65c_add_9ea2d 2 (some .boolean) :: wsL_law) ({ frames := 1, cells := 0, slots := 0, locals := 23 }) (va_Pc [.ref h0, .ref h1] (PC (dC, dI) [(h0, .inr (0, [.int 1, .ref h2, .int 1])), (h1, .inr (3, [.int 1, .ref (z.2.1 0), .ref o0, .null, .int 0, .int 0, .int 120, .int 120, .int 0, .int 0, .int 0, .int 120, .int 120, .int 0, .int 0, .int 0, .ref h1, .int 0, .int 0])), (h2, .inl (kc0, 10, .inr (.inr (.inr (.inr (va_up (fun _ => none) 0 (some o1)))))))] [(kc0, .object "java/lang/Object")] sz z)) (va_Qi (fun (r : Int32) (_ : Unit) => r = 1) (fun (_ : Unit) (t : State) => PG (dC, dI) [(h0, .inr (0, [.int 2, .ref h2, .int 2])), (h1, .inr (3, [.int 1, .ref (z.2.1 0), .ref o0, .null, .int 0, .int 0, .int 120, .int 120, .int 0, .int 0, .int 0, .int 120, .int 120, .int 0, .int 0, .int 0, .ref h1, .int 0, .int 0])), (h2, .inl (kc0, 10, .inr (.inr (.inr (.inr (va_up (va_up (fun _ => none) 0 (some o1)) 1 (some h1)))))))] [(kc0, .object "java/lang/Object")] (va_A [(h0, .inr (0, [.int 1, .ref h2, .int 1])), (h1, .inr (3, [.int 1, .ref (z.2.1 0), .ref o0, .null, .int 0, .int 0, .int 120, .int 120, .int 0, .int 0, .int 0, .int 120, .int 120, .int 0, .int 0, .int 0, .ref h1, .int 0, .int 0])), (h2, .inl (kc0, 10, .inr (.inr (.inr (.inr (va_up (fun _ => none) 0 (some o1)))))))] sz) sz 0 t) (va_A [(h0, .inr (0, [.int 1, .ref h2, .int 1])), (h1, .inr (3, [.int 1, .ref (z.2.1 0), .ref o0, .null, .int 0, .int 0, .int 120, .int 120, .int 0, .int 0, .int 0, .int 120, .int 120, .int 0, .int 0, .int 0, .ref h1, .int 0, .int 0])), (h2, .inl (kc0, 10, .inr (.inr (.inr (.inr (va_up (fun _ => none) 0 (some o1)))))))] sz)) 0 0 (va_A [(h0, .inr (0, [.int 1, .ref h2, .int 1])), (h1, .inr (3, [.int 1, .ref (z.2.1 0), .ref o0, .null, .int 0, .int 0, .int 120, .int 120, .int 0, .int 0, .int 0, .int 120, .int 120, .int 0, .int 0, .int 0, .ref h1, .int 0, .int 0])), (h2, .inl (kc0, 10, .inr (.inr (.inr (.inr (va_up (fun _ => none) 0 (some o1)))))))] sz) := by
  refine Met.ofW (cc := cJx4a65c_add_9ea2d) (maxL := 2) (ret := (some .boolean)) (by decide) rfl ?_
  intro p e s m args below meth c s₁ B hml hv
  obtain ⟨rfl, hsz, hP, hK, hD0, hX, hT⟩ := hv
  have hx := B.exec
  have hb := B.bytes
  have hr := B.returns
  have hts0 := atoms_spec (ws := .code yJx4a65c_add_9ea2d cJx4a65c_add_9ea2d 2 (some .boolean) :: wsL_law) B.pre
  have hts := xTail hts0
  have hown : s.vm.findClass RJx4a65c = some m.cls := findClass_of_methodNamed B.named
  have hlocks := B.notSynchronized
  subst hsz
  have hD := hD0.self (sz := s.heap.size)
  generalize hAe : va_A [(h0, .inr (0, [.int 1, .ref h2, .int 1])), (h1, .inr (3, [.int 1, .ref (z.2.1 0), .ref o0, .null, .int 0, .int 0, .int 120, .int 120, .int 0, .int 0, .int 0, .int 120, .int 120, .int 0, .int 0, .int 0, .ref h1, .int 0, .int 0])), (h2, .inl (kc0, 10, .inr (.inr (.inr (.inr (va_up (fun _ => none) 0 (some o1)))))))] s.heap.size = A at hD hX ⊢
  have hA : ∀ q : Nat, s.heap.size ≤ q → A q := fun q h => by rw [← hAe]; exact Or.inr h
  have hS : va_S A s.heap s.heap [] := va_S.rf
  have hG : s.heap.size + 0 ≤ s.heap.size := Nat.le_refl _
  have hl := lv_entry ([.ref h0, .ref h1]) (n := 2) (Nat.le_of_ble_eq_true rfl)
  rw [lg_entry_eq]
  generalize (lg_sl ([.ref h0, .ref h1]) ++ List.replicate (2 - (lg_sl ([.ref h0, .ref h1])).length) Slot.unset).toArray = ls at hl ⊢
  have hl : lv_has ls 2 [(0, .ref h0), (1, .ref h1)] := hl
  refine lv_aload_n hx hb dJx4a65c_add_9ea2d_0 rfl (lv_at hl 0 rfl) ?_
  refine lv_dup hx hb dJx4a65c_add_9ea2d_1 rfl ?_
  refine va_get (D := (dC, dI)) (ci := 0) (v := .int 1) (C := RJx4a65c) (T := TJx4a65c) (N := 3) hx hb hts in_Jx4a65c hown hK hP 0 rfl rfl 0 (by decide) (hts _ q_108) (u_same (hts _ q_107)) rfl dJx4a65c_add_9ea2d_2 ?_
  refine lv_iconst (v := 1) hx hb dJx4a65c_add_9ea2d_5 (by decide) ?_
  refine lv_iadd hx hb dJx4a65c_add_9ea2d_6 ?_
  refine lv_topi (fun y1 ey1 => ?_)
  obtain rfl : y1 = 2 := ey1.trans (by decide)
  refine va_put (D := (dC, dI)) (ci := 0) (v := .int 2) (ty := .int) (C := RJx4a65c) (T := TJx4a65c) (N := 3) hx hb hts in_Jx4a65c tyJx4a65c tyJx4a65c_ok nmJx4a65c hown hK hP hD (va_Sre hS) 0 rfl rfl 0 (by decide) (hts _ q_108) (u_same (hts _ q_107)) rfl (by decide +kernel) rfl rfl (Nat.le_of_ble_eq_true rfl) dJx4a65c_add_9ea2d_7 (fun H2 _ hP hD hS' => ?_)
  have hG : s.heap.size + 0 ≤ H2.size := Nat.le_trans hG hS'.1
  have hS := va_Str hS hS'
  have hP : va_P (dC, dI) xCl [(h0, .inr (0, [.int 2, .ref h2, .int 1])), (h1, .inr (3, [.int 1, .ref (z.2.1 0), .ref o0, .null, .int 0, .int 0, .int 120, .int 120, .int 0, .int 0, .int 0, .int 120, .int 120, .int 0, .int 0, .int 0, .ref h1, .int 0, .int 0])), (h2, .inl (kc0, 10, .inr (.inr (.inr (.inr (va_up (fun _ => none) 0 (some o1)))))))] H2 := hP
  have hD : va_D A [(h0, .inr (0, [.int 2, .ref h2, .int 1])), (h1, .inr (3, [.int 1, .ref (z.2.1 0), .ref o0, .null, .int 0, .int 0, .int 120, .int 120, .int 0, .int 0, .int 0, .int 120, .int 120, .int 0, .int 0, .int 0, .ref h1, .int 0, .int 0])), (h2, .inl (kc0, 10, .inr (.inr (.inr (.inr (va_up (fun _ => none) 0 (some o1)))))))] := hD
  refine lv_aload_n hx hb dJx4a65c_add_9ea2d_10 rfl (lv_at hl 0 rfl) ?_
  refine lv_aload_n hx hb dJx4a65c_add_9ea2d_11 rfl (lv_at hl 1 rfl) ?_
  refine lv_aload_n hx hb dJx4a65c_add_9ea2d_12 rfl (lv_at hl 0 rfl) ?_
  refine va_get (D := (dC, dI)) (ci := 0) (v := .ref h2) (C := RJx4a65c) (T := TJx4a65c) (N := 3) hx hb hts in_Jx4a65c hown hK hP 0 rfl rfl 1 (by decide) (hts _ q_24) (fun _ h9 => h9) rfl dJx4a65c_add_9ea2d_13 ?_
  refine lv_aload_n hx hb dJx4a65c_add_9ea2d_16 rfl (lv_at hl 0 rfl) ?_
  refine va_get (D := (dC, dI)) (ci := 0) (v := .int 1) (C := RJx4a65c) (T := TJx4a65c) (N := 3) hx hb hts in_Jx4a65c hown hK hP 0 rfl rfl 2 (by decide) (hts _ q_74) (fun _ h9 => h9) rfl dJx4a65c_add_9ea2d_17 ?_
  have hF3 := va_free (wc := [(h0, .inr (0, [.int 2, .ref h2, .int 1])), (h1, .inr (3, [.int 1, .ref (z.2.1 0), .ref o0, .null, .int 0, .int 0, .int 120, .int 120, .int 0, .int 0, .int 0, .int 120, .int 120, .int 0, .int 0, .int 0, .ref h1, .int 0, .int 0])), (h2, .inl (kc0, 10, .inr (.inr (.inr (.inr (va_up (fun _ => none) 0 (some o1)))))))]) hD hS hA [0, 1, 2] rfl
  refine va_callv (va_runV (As := [.ref h1, .ref h2, .int 1]) (rest := []) ⟨hx, hb, hml, hown, hts⟩ (k83_add l hl9 dC dI z h0 h1 h2 o0 o1 H2.size kc0) (cwV 3 hts (gV q_123 q_124 q_125 q_12 q_122) rfl rfl rfl (by decide +kernel) ⟨Nat.le_of_ble_eq_true rfl, Nat.le_of_ble_eq_true rfl⟩) ⟨pc_blind, va_recv hK hP (ci := 0) (q0 := 0) rfl rfl, fun U hU hW => ⟨rfl, pc_mk hP hD hK hS hX hT [0, 1, 2] [0] rfl rfl rfl rfl hF3 hU hW⟩⟩ rfl rfl hl.1 rfl (lv_room (Nat.le_of_ble_eq_true rfl)) dJx4a65c_add_9ea2d_20 ⟨(Nat.le_of_ble_eq_true rfl), (Nat.le_of_ble_eq_true rfl)⟩) hS (fun q9 _ h9 => hF3 q9 h9) hF3 (fun u5 t5 H5 L5 ht5 hvm5 hw5 hB5 hz5 hk5 hS => ?_)
  obtain ⟨hP, hD, hK⟩ := pq_join (wr := []) (tr := []) (wz := [(h0, .inr (0, [.int 2, .ref h2, .int 2])), (h1, .inr (3, [.int 1, .ref (z.2.1 0), .ref o0, .null, .int 0, .int 0, .int 120, .int 120, .int 0, .int 0, .int 0, .int 120, .int 120, .int 0, .int 0, .int 0, .ref h1, .int 0, .int 0])), (h2, .inl (kc0, 10, .inr (.inr (.inr (.inr (va_up (va_up (fun _ => none) 0 (some o1)) 1 (some h1)))))))]) (tz := [(kc0, .object "java/lang/Object")]) hP hD hK [0, 1, 2] [] [] rfl rfl (by decide) (by decide) rfl hk5 hF3 hB5.1 ht5 hvm5 rfl rfl
  have hG : s.heap.size + 0 ≤ H5.size := Nat.le_trans hG hz5
  refine lv_iconst (v := 1) hx hb dJx4a65c_add_9ea2d_23 (by decide) ?_
  exact W.zret (v := 1) (ty := .boolean) hx hb hr rfl (fun t9 ht9 hW9 => ⟨⟨1, (), rfl, rfl, ⟨pq_mk (wc := [(h0, .inr (0, [.int 2, .ref h2, .int 2])), (h1, .inr (3, [.int 1, .ref (z.2.1 0), .ref o0, .null, .int 0, .int 0, .int 120, .int 120, .int 0, .int 0, .int 0, .int 120, .int 120, .int 0, .int 0, .int 0, .ref h1, .int 0, .int 0])), (h2, .inl (kc0, 10, .inr (.inr (.inr (.inr (va_up (va_up (fun _ => none) 0 (some o1)) 1 (some h1)))))))]) (tc := [(kc0, .object "java/lang/Object")]) hP hD hK [0, 1, 2] [0] rfl rfl rfl rfl ht9 hW9, by rw [ht9]; exact Nat.le_trans (Nat.add_le_add_left (Nat.le_of_ble_eq_true rfl) _) hG⟩⟩, hS.F ht9⟩) hS.2.2 dJx4a65c_add_9ea2d_24

set_option maxHeartbeats 4000000 in
set_option maxRecDepth 100000 in
theorem k85_isSource (l : Launch) (hl9 : l.stackTraces = false) (dC : Nat → ClassId) (dI : Nat → Nat → Nat) (z : XZ) (h0 : Nat) (o0 : Nat) (sz : Nat) : Met l yX2_isSource (.code yX2_isSource cX2_isSource 1 (some .boolean) :: wsL_law) ({ frames := 0, cells := 0, slots := 0, locals := 0 }) (va_Pc [.ref h0] (PC (dC, dI) [(h0, .inr (3, [.int 1, .ref (z.2.1 0), .ref o0, .null, .int 0, .int 0, .int 120, .int 120, .int 0, .int 0, .int 0, .int 120, .int 120, .int 0, .int 0, .int 0, .ref h0, .int 0, .int 0]))] [] sz z)) (va_Qi (fun (r : Int32) (_ : Unit) => r = 1) (fun (_ : Unit) (t : State) => PG (dC, dI) [(h0, .inr (3, [.int 1, .ref (z.2.1 0), .ref o0, .null, .int 0, .int 0, .int 120, .int 120, .int 0, .int 0, .int 0, .int 120, .int 120, .int 0, .int 0, .int 0, .ref h0, .int 0, .int 0]))] [] (va_A [(h0, .inr (3, [.int 1, .ref (z.2.1 0), .ref o0, .null, .int 0, .int 0, .int 120, .int 120, .int 0, .int 0, .int 0, .int 120, .int 120, .int 0, .int 0, .int 0, .ref h0, .int 0, .int 0]))] sz) sz 0 t) (va_A [(h0, .inr (3, [.int 1, .ref (z.2.1 0), .ref o0, .null, .int 0, .int 0, .int 120, .int 120, .int 0, .int 0, .int 0, .int 120, .int 120, .int 0, .int 0, .int 0, .ref h0, .int 0, .int 0]))] sz)) 0 0 (va_A [(h0, .inr (3, [.int 1, .ref (z.2.1 0), .ref o0, .null, .int 0, .int 0, .int 120, .int 120, .int 0, .int 0, .int 0, .int 120, .int 120, .int 0, .int 0, .int 0, .ref h0, .int 0, .int 0]))] sz) := by
  refine Met.ofW (cc := cX2_isSource) (maxL := 1) (ret := (some .boolean)) (by decide) rfl ?_
  intro p e s m args below meth c s₁ B hml hv
  obtain ⟨rfl, hsz, hP, hK, hD0, hX, hT⟩ := hv
  have hx := B.exec
  have hb := B.bytes
  have hr := B.returns
  have hts0 := atoms_spec (ws := .code yX2_isSource cX2_isSource 1 (some .boolean) :: wsL_law) B.pre
  have hts := xTail hts0
  have hown : s.vm.findClass RX2 = some m.cls := findClass_of_methodNamed B.named
  have hlocks := B.notSynchronized
  subst hsz
  have hD := hD0.self (sz := s.heap.size)
  generalize hAe : va_A [(h0, .inr (3, [.int 1, .ref (z.2.1 0), .ref o0, .null, .int 0, .int 0, .int 120, .int 120, .int 0, .int 0, .int 0, .int 120, .int 120, .int 0, .int 0, .int 0, .ref h0, .int 0, .int 0]))] s.heap.size = A at hD hX ⊢
  have hA : ∀ q : Nat, s.heap.size ≤ q → A q := fun q h => by rw [← hAe]; exact Or.inr h
  have hS : va_S A s.heap s.heap [] := va_S.rf
  have hG : s.heap.size + 0 ≤ s.heap.size := Nat.le_refl _
  have hl := lv_entry ([.ref h0]) (n := 1) (Nat.le_of_ble_eq_true rfl)
  rw [lg_entry_eq]
  generalize (lg_sl ([.ref h0]) ++ List.replicate (1 - (lg_sl ([.ref h0])).length) Slot.unset).toArray = ls at hl ⊢
  have hl : lv_has ls 1 [(0, .ref h0)] := hl
  refine lv_aload_n hx hb dX2_isSource_0 rfl (lv_at hl 0 rfl) ?_
  refine va_get (D := (dC, dI)) (ci := 3) (v := .ref (z.2.1 0)) (C := RX2) (T := TX2) (N := 19) hx hb hts in_X2 hown hK hP 0 rfl rfl 1 (by decide) (hts _ q_98) (fun _ h9 => h9) rfl dX2_isSource_1 ?_
  refine va_gets (own := RX2) (ref := "Deltacycle$NetKind") hx hb (hX.2.1.1 0 (by decide)).1 hS hown (hts _ q_130) (fun _ h9 => h9) dX2_isSource_4 ?_
  refine lv_acmp_eq (rx := (some (z.2.1 0))) (ry := (some (z.2.1 0))) (tgt := 20) hx hb dX2_isSource_7 (by decide) (fun _ => ?_) (fun cz => absurd rfl cz)
  refine lv_iconst (v := 1) hx hb dX2_isSource_20 (by decide) ?_
  refine lv_goto (tgt := 25) hx hb dX2_isSource_21 (by decide) ?_
  exact W.zret (v := 1) (ty := .boolean) hx hb hr rfl (fun t9 ht9 hW9 => ⟨⟨1, (), rfl, rfl, ⟨pq_mk (wc := [(h0, .inr (3, [.int 1, .ref (z.2.1 0), .ref o0, .null, .int 0, .int 0, .int 120, .int 120, .int 0, .int 0, .int 0, .int 120, .int 120, .int 0, .int 0, .int 0, .ref h0, .int 0, .int 0]))]) (tc := []) hP hD hK [0] [] rfl rfl rfl rfl ht9 hW9, by rw [ht9]; exact Nat.le_trans (Nat.add_le_add_left (Nat.le_of_ble_eq_true rfl) _) hG⟩⟩, hS.F ht9⟩) hS.2.2 dX2_isSource_25

set_option maxHeartbeats 4000000 in
set_option maxRecDepth 100000 in
theorem k86_makeNet (l : Launch) (hl9 : l.stackTraces = false) (dC : Nat → ClassId) (dI : Nat → Nat → Nat) (z : XZ) (h0 h1 h2 h3 h4 : Nat) (o0 o1 o2 : Nat) (sz : Nat) (kc0 kc1 : ClassId) : Met l yX0_makeNet (.code yX0_makeNet cX0_makeNet 3 (some (.object "Deltacycle$Net")) :: wsL_law) ({ frames := 5, cells := 2, slots := 22, locals := 98 }) (va_Pc [.ref h0, .ref (z.2.1 0)] (PC (dC, dI) [(h0, .inr (2, [.ref h1, .ref h2, .ref o0, .ref o1])), (h1, .inr (0, [.int 1, .ref h3, .int 1])), (h2, .inr (0, [.int 1, .ref h4, .int 1])), (h3, .inl (kc0, 10, .inr (.inr (.inr (.inr (va_up (fun _ => none) 0 (some o2))))))), (h4, .inl (kc1, 10, .inr (.inr (.inr (.inr (va_up (fun _ => none) 0 (some o2)))))))] [(kc0, .object "java/lang/Object"), (kc1, .object "java/lang/Object")] sz z)) (va_Qr (fun (_ : Unit) => True) (fun (_ : Unit) (ra : Nat) (t : State) => ∃ (n0 n1 : Nat), ra = n0 ∧ PG (dC, dI) [(h0, .inr (2, [.ref h1, .ref h2, .ref o0, .ref o1])), (h1, .inr (0, [.int 2, .ref h3, .int 2])), (h2, .inr (0, [.int 2, .ref h4, .int 2])), (h3, .inl (kc0, 10, .inr (.inr (.inr (.inr (va_up (va_up (fun _ => none) 0 (some o2)) 1 (some n0))))))), (h4, .inl (kc1, 10, .inr (.inr (.inr (.inr (va_up (va_up (fun _ => none) 0 (some o2)) 1 (some n0))))))), (n0, .inr (3, [.int 1, .ref (z.2.1 0), .ref n1, .null, .int 0, .int 0, .int 120, .int 120, .int 0, .int 0, .int 0, .int 120, .int 120, .int 0, .int 0, .int 0, .ref n0, .int 0, .int 0])), (n1, .inr (0, [.int 0, .ref z.1, .int 0]))] [(kc0, .object "java/lang/Object"), (kc1, .object "java/lang/Object")] (va_A [(h0, .inr (2, [.ref h1, .ref h2, .ref o0, .ref o1])), (h1, .inr (0, [.int 1, .ref h3, .int 1])), (h2, .inr (0, [.int 1, .ref h4, .int 1])), (h3, .inl (kc0, 10, .inr (.inr (.inr (.inr (va_up (fun _ => none) 0 (some o2))))))), (h4, .inl (kc1, 10, .inr (.inr (.inr (.inr (va_up (fun _ => none) 0 (some o2)))))))] sz) sz 2 t) (va_A [(h0, .inr (2, [.ref h1, .ref h2, .ref o0, .ref o1])), (h1, .inr (0, [.int 1, .ref h3, .int 1])), (h2, .inr (0, [.int 1, .ref h4, .int 1])), (h3, .inl (kc0, 10, .inr (.inr (.inr (.inr (va_up (fun _ => none) 0 (some o2))))))), (h4, .inl (kc1, 10, .inr (.inr (.inr (.inr (va_up (fun _ => none) 0 (some o2)))))))] sz)) 2 22 (va_A [(h0, .inr (2, [.ref h1, .ref h2, .ref o0, .ref o1])), (h1, .inr (0, [.int 1, .ref h3, .int 1])), (h2, .inr (0, [.int 1, .ref h4, .int 1])), (h3, .inl (kc0, 10, .inr (.inr (.inr (.inr (va_up (fun _ => none) 0 (some o2))))))), (h4, .inl (kc1, 10, .inr (.inr (.inr (.inr (va_up (fun _ => none) 0 (some o2)))))))] sz) := by
  refine Met.ofW (cc := cX0_makeNet) (maxL := 3) (ret := (some (.object "Deltacycle$Net"))) (by decide) rfl ?_
  intro p e s m args below meth c s₁ B hml hv
  obtain ⟨rfl, hsz, hP, hK, hD0, hX, hT⟩ := hv
  have hx := B.exec
  have hb := B.bytes
  have hr := B.returns
  have hts0 := atoms_spec (ws := .code yX0_makeNet cX0_makeNet 3 (some (.object "Deltacycle$Net")) :: wsL_law) B.pre
  have hts := xTail hts0
  have hown : s.vm.findClass RX0 = some m.cls := findClass_of_methodNamed B.named
  have hlocks := B.notSynchronized
  subst hsz
  have hD := hD0.self (sz := s.heap.size)
  generalize hAe : va_A [(h0, .inr (2, [.ref h1, .ref h2, .ref o0, .ref o1])), (h1, .inr (0, [.int 1, .ref h3, .int 1])), (h2, .inr (0, [.int 1, .ref h4, .int 1])), (h3, .inl (kc0, 10, .inr (.inr (.inr (.inr (va_up (fun _ => none) 0 (some o2))))))), (h4, .inl (kc1, 10, .inr (.inr (.inr (.inr (va_up (fun _ => none) 0 (some o2)))))))] s.heap.size = A at hD hX ⊢
  have hA : ∀ q : Nat, s.heap.size ≤ q → A q := fun q h => by rw [← hAe]; exact Or.inr h
  have hS : va_S A s.heap s.heap [] := va_S.rf
  have hG : s.heap.size + 0 ≤ s.heap.size := Nat.le_refl _
  have hl := lv_entry ([.ref h0, .ref (z.2.1 0)]) (n := 3) (Nat.le_of_ble_eq_true rfl)
  rw [lg_entry_eq]
  generalize (lg_sl ([.ref h0, .ref (z.2.1 0)]) ++ List.replicate (3 - (lg_sl ([.ref h0, .ref (z.2.1 0)])).length) Slot.unset).toArray = ls at hl ⊢
  have hl : lv_has ls 3 [(0, .ref h0), (1, .ref (z.2.1 0))] := hl
  refine xa_new (ci := 3) (fs := [.int 0, .null, .null, .null, .int 0, .int 0, .int 0, .int 0, .int 0, .int 0, .int 0, .int 0, .int 0, .int 0, .int 0, .int 0, .null, .int 0, .int 0]) (C := RX2) (T := TX2) (N := 19) hx hb hts in_X2 tyX2 tyX2_ok hown (hts _ q_89) (hts _ q_90) (hts _ q_91) hK hP hD hS hA rfl nf_X2 (Nat.le_of_ble_eq_true rfl) (Nat.le_of_ble_eq_true rfl) dX0_makeNet_0 (fun a1 H2 hg8 hP hD hS => ?_)
  have hG : s.heap.size + 1 ≤ H2.size := by rw [hg8]; exact Nat.succ_le_succ hG
  have hP : va_P (dC, dI) xCl [(h0, .inr (2, [.ref h1, .ref h2, .ref o0, .ref o1])), (h1, .inr (0, [.int 1, .ref h3, .int 1])), (h2, .inr (0, [.int 1, .ref h4, .int 1])), (h3, .inl (kc0, 10, .inr (.inr (.inr (.inr (va_up (fun _ => none) 0 (some o2))))))), (h4, .inl (kc1, 10, .inr (.inr (.inr (.inr (va_up (fun _ => none) 0 (some o2))))))), (a1, .inr (3, [.int 0, .null, .null, .null, .int 0, .int 0, .int 0, .int 0, .int 0, .int 0, .int 0, .int 0, .int 0, .int 0, .int 0, .int 0, .null, .int 0, .int 0]))] H2 := hP
  have hD : va_D A [(h0, .inr (2, [.ref h1, .ref h2, .ref o0, .ref o1])), (h1, .inr (0, [.int 1, .ref h3, .int 1])), (h2, .inr (0, [.int 1, .ref h4, .int 1])), (h3, .inl (kc0, 10, .inr (.inr (.inr (.inr (va_up (fun _ => none) 0 (some o2))))))), (h4, .inl (kc1, 10, .inr (.inr (.inr (.inr (va_up (fun _ => none) 0 (some o2))))))), (a1, .inr (3, [.int 0, .null, .null, .null, .int 0, .int 0, .int 0, .int 0, .int 0, .int 0, .int 0, .int 0, .int 0, .int 0, .int 0, .int 0, .null, .int 0, .int 0]))] := hD
  refine W.widen (k := 1) (n := 19) (by decide) (by decide) ?_
  refine lv_dup hx hb dX0_makeNet_3 rfl ?_
  refine lv_aload_n hx hb dX0_makeNet_4 rfl (lv_at hl 0 rfl) ?_
  refine va_get (D := (dC, dI)) (ci := 2) (v := .ref h1) (C := RX0) (T := TX0) (N := 4) hx hb hts in_X0 hown hK hP 0 rfl rfl 0 (by decide) (hts _ q_28) (fun _ h9 => h9) rfl dX0_makeNet_5 ?_
  have hF3 := va_free (wc := [(h1, .inr (0, [.int 1, .ref h3, .int 1]))]) hD hS hA [1] rfl
  refine va_calli (va_runV (As := []) (rest := [.ref a1, .ref a1]) ⟨hx, hb, hml, hown, hts⟩ (k20_size l hl9 dC dI z h1 h3 H2.size 1 1) (cwV 0 hts (gV q_92 q_77 q_78 q_12 q_75) rfl rfl rfl (by decide +kernel) ⟨Nat.le_of_ble_eq_true rfl, Nat.le_of_ble_eq_true rfl⟩) ⟨pc_blind, va_recv hK hP (ci := 0) (q0 := 1) rfl rfl, fun U hU hW => ⟨rfl, pc_mk hP hD hK hS hX hT [1] [] rfl rfl rfl rfl hF3 hU hW⟩⟩ rfl rfl hl.1 rfl (lv_room (Nat.le_of_ble_eq_true rfl)) dX0_makeNet_8 ⟨(Nat.le_of_ble_eq_true rfl), (Nat.le_of_ble_eq_true rfl)⟩) hS (fun q9 _ h9 => hF3 q9 h9) hF3 (fun r6 u5 t5 H5 L5 ht5 hvm5 hw5 hB5 hz5 hk5 hS => ?_)
  obtain ⟨hP, hD, hK⟩ := pq_join (wr := [(h0, .inr (2, [.ref h1, .ref h2, .ref o0, .ref o1])), (h2, .inr (0, [.int 1, .ref h4, .int 1])), (h3, .inl (kc0, 10, .inr (.inr (.inr (.inr (va_up (fun _ => none) 0 (some o2))))))), (h4, .inl (kc1, 10, .inr (.inr (.inr (.inr (va_up (fun _ => none) 0 (some o2))))))), (a1, .inr (3, [.int 0, .null, .null, .null, .int 0, .int 0, .int 0, .int 0, .int 0, .int 0, .int 0, .int 0, .int 0, .int 0, .int 0, .int 0, .null, .int 0, .int 0]))]) (tr := [(kc0, .object "java/lang/Object"), (kc1, .object "java/lang/Object")]) (wz := [(h0, .inr (2, [.ref h1, .ref h2, .ref o0, .ref o1])), (h2, .inr (0, [.int 1, .ref h4, .int 1])), (h3, .inl (kc0, 10, .inr (.inr (.inr (.inr (va_up (fun _ => none) 0 (some o2))))))), (h4, .inl (kc1, 10, .inr (.inr (.inr (.inr (va_up (fun _ => none) 0 (some o2))))))), (a1, .inr (3, [.int 0, .null, .null, .null, .int 0, .int 0, .int 0, .int 0, .int 0, .int 0, .int 0, .int 0, .int 0, .int 0, .int 0, .int 0, .null, .int 0, .int 0])), (h1, .inr (0, [.int 1, .ref h3, .int 1]))]) (tz := [(kc0, .object "java/lang/Object"), (kc1, .object "java/lang/Object")]) hP hD hK [1] [0, 2, 3, 4, 5] [0, 1] rfl rfl (by decide) (by decide) rfl hk5 hF3 hB5.1 ht5 hvm5 rfl rfl
  have hG : s.heap.size + 1 ≤ H5.size := Nat.le_trans hG hz5
  refine W.eq (g2 := F0 m 11 ls [.int 1, .ref a1, .ref a1]) (by rw [hw5]) ?_
  refine lv_aload_n hx hb dX0_makeNet_11 rfl (lv_at hl 1 rfl) ?_
  have hF7 := va_free (wc := [(a1, .inr (3, [.int 0, .null, .null, .null, .int 0, .int 0, .int 0, .int 0, .int 0, .int 0, .int 0, .int 0, .int 0, .int 0, .int 0, .int 0, .null, .int 0, .int 0]))]) hD hS hA [4] rfl
  refine va_callv (va_runI (As := [.int 1, .ref (z.2.1 0)]) (rest := [.ref a1]) ⟨hx, hb, hml, hown, hts⟩ (k82_init l hl9 dC dI z a1 H5.size) (cwI 2 hts (gIL q_104) rfl rfl rfl (hts _ q_91) (hts _ q_105) (hts _ q_106) rfl (by decide +kernel) ⟨Nat.le_of_ble_eq_true rfl, Nat.le_of_ble_eq_true rfl⟩) ⟨pc_blind, fun U hU hW => ⟨rfl, pc_mk hP hD hK hS hX hT [4] [] rfl rfl rfl rfl hF7 hU hW⟩⟩ rfl rfl hl.1 rfl (lv_room (Nat.le_of_ble_eq_true rfl)) dX0_makeNet_12 ⟨(Nat.le_of_ble_eq_true rfl), (Nat.le_of_ble_eq_true rfl)⟩) hS (fun q9 _ h9 => hF7 q9 h9) hF7 (fun u9 t9 H9 L9 ht9 hvm9 hw9 hB9 hz9 hk9 hS => ?_)
  obtain ⟨a11, hB9⟩ := hB9
  obtain ⟨hP, hD, hK⟩ := pq_join (wr := [(h0, .inr (2, [.ref h1, .ref h2, .ref o0, .ref o1])), (h2, .inr (0, [.int 1, .ref h4, .int 1])), (h3, .inl (kc0, 10, .inr (.inr (.inr (.inr (va_up (fun _ => none) 0 (some o2))))))), (h4, .inl (kc1, 10, .inr (.inr (.inr (.inr (va_up (fun _ => none) 0 (some o2))))))), (h1, .inr (0, [.int 1, .ref h3, .int 1]))]) (tr := [(kc0, .object "java/lang/Object"), (kc1, .object "java/lang/Object")]) (wz := [(h0, .inr (2, [.ref h1, .ref h2, .ref o0, .ref o1])), (h2, .inr (0, [.int 1, .ref h4, .int 1])), (h3, .inl (kc0, 10, .inr (.inr (.inr (.inr (va_up (fun _ => none) 0 (some o2))))))), (h4, .inl (kc1, 10, .inr (.inr (.inr (.inr (va_up (fun _ => none) 0 (some o2))))))), (h1, .inr (0, [.int 1, .ref h3, .int 1])), (a1, .inr (3, [.int 1, .ref (z.2.1 0), .ref a11, .null, .int 0, .int 0, .int 120, .int 120, .int 0, .int 0, .int 0, .int 120, .int 120, .int 0, .int 0, .int 0, .ref a1, .int 0, .int 0])), (a11, .inr (0, [.int 0, .ref z.1, .int 0]))]) (tz := [(kc0, .object "java/lang/Object"), (kc1, .object "java/lang/Object")]) hP hD hK [4] [0, 1, 2, 3, 5] [0, 1] rfl rfl (by decide) (by decide) rfl hk9 hF7 hB9.1 ht9 hvm9 rfl rfl
  have hG : s.heap.size + 2 ≤ H9.size := va_gr (g := 1) (g1 := 1) hG (by rw [← ht9]; exact hB9.2)
  refine W.widen (k := 2) (n := 22) (by decide) (by decide) ?_
  refine lv_astore_n (lv' := [(2, .ref a1), (0, .ref h0), (1, .ref (z.2.1 0))]) hx hb dX0_makeNet_15 rfl hl (by decide) rfl (fun ls hl => ?_)
  refine lv_aload_n hx hb dX0_makeNet_16 rfl (lv_at hl 1 rfl) ?_
  refine va_get (D := (dC, dI)) (ci := 2) (v := .ref h1) (C := RX0) (T := TX0) (N := 4) hx hb hts in_X0 hown hK hP 0 rfl rfl 0 (by decide) (hts _ q_28) (fun _ h9 => h9) rfl dX0_makeNet_17 ?_
  refine lv_aload_n hx hb dX0_makeNet_20 rfl (lv_at hl 0 rfl) ?_
  have hF12 := va_free (wc := [(h1, .inr (0, [.int 1, .ref h3, .int 1])), (a1, .inr (3, [.int 1, .ref (z.2.1 0), .ref a11, .null, .int 0, .int 0, .int 120, .int 120, .int 0, .int 0, .int 0, .int 120, .int 120, .int 0, .int 0, .int 0, .ref a1, .int 0, .int 0])), (h3, .inl (kc0, 10, .inr (.inr (.inr (.inr (va_up (fun _ => none) 0 (some o2)))))))]) hD hS hA [4, 5, 2] rfl
  refine va_calli (va_runV (As := [.ref a1]) (rest := []) ⟨hx, hb, hml, hown, hts⟩ (k84_add l hl9 dC dI z h1 a1 h3 a11 o2 H9.size kc0) (cwV 1 hts (gV q_127 q_128 q_129 q_12 q_126) rfl rfl rfl (by decide +kernel) ⟨Nat.le_of_ble_eq_true rfl, Nat.le_of_ble_eq_true rfl⟩) ⟨pc_blind, va_recv hK hP (ci := 0) (q0 := 4) rfl rfl, fun U hU hW => ⟨rfl, pc_mk hP hD hK hS hX hT [4, 5, 2] [0] rfl rfl rfl rfl hF12 hU hW⟩⟩ rfl rfl hl.1 rfl (lv_room (Nat.le_of_ble_eq_true rfl)) dX0_makeNet_21 ⟨(Nat.le_of_ble_eq_true rfl), (Nat.le_of_ble_eq_true rfl)⟩) hS (fun q9 _ h9 => hF12 q9 h9) hF12 (fun r15 u14 t14 H14 L14 ht14 hvm14 hw14 hB14 hz14 hk14 hS => ?_)
  obtain ⟨hP, hD, hK⟩ := pq_join (wr := [(h0, .inr (2, [.ref h1, .ref h2, .ref o0, .ref o1])), (h2, .inr (0, [.int 1, .ref h4, .int 1])), (h4, .inl (kc1, 10, .inr (.inr (.inr (.inr (va_up (fun _ => none) 0 (some o2))))))), (a11, .inr (0, [.int 0, .ref z.1, .int 0]))]) (tr := [(kc1, .object "java/lang/Object")]) (wz := [(h0, .inr (2, [.ref h1, .ref h2, .ref o0, .ref o1])), (h2, .inr (0, [.int 1, .ref h4, .int 1])), (h4, .inl (kc1, 10, .inr (.inr (.inr (.inr (va_up (fun _ => none) 0 (some o2))))))), (a11, .inr (0, [.int 0, .ref z.1, .int 0])), (h1, .inr (0, [.int 2, .ref h3, .int 2])), (a1, .inr (3, [.int 1, .ref (z.2.1 0), .ref a11, .null, .int 0, .int 0, .int 120, .int 120, .int 0, .int 0, .int 0, .int 120, .int 120, .int 0, .int 0, .int 0, .ref a1, .int 0, .int 0])), (h3, .inl (kc0, 10, .inr (.inr (.inr (.inr (va_up (va_up (fun _ => none) 0 (some o2)) 1 (some a1)))))))]) (tz := [(kc1, .object "java/lang/Object"), (kc0, .object "java/lang/Object")]) hP hD hK [4, 5, 2] [0, 1, 3, 6] [1] rfl rfl (by decide) (by decide) rfl hk14 hF12 hB14.1 ht14 hvm14 rfl rfl
  have hG : s.heap.size + 2 ≤ H14.size := Nat.le_trans hG hz14
  refine W.eq (g2 := F0 m 24 ls [.int 1]) (by rw [hw14]) ?_
  refine lv_pop hx hb dX0_makeNet_24 rfl ?_
  refine lv_aload_n hx hb dX0_makeNet_25 rfl (lv_at hl 0 rfl) ?_
  have hF16 := va_free (wc := [(a1, .inr (3, [.int 1, .ref (z.2.1 0), .ref a11, .null, .int 0, .int 0, .int 120, .int 120, .int 0, .int 0, .int 0, .int 120, .int 120, .int 0, .int 0, .int 0, .ref a1, .int 0, .int 0]))]) hD hS hA [5] rfl
  refine va_calli (va_runV (As := []) (rest := []) ⟨hx, hb, hml, hown, hts⟩ (k85_isSource l hl9 dC dI z a1 a11 H14.size) (cwV 0 hts (gV q_132 q_133 q_134 q_91 q_131) rfl rfl rfl (by decide +kernel) ⟨Nat.le_of_ble_eq_true rfl, Nat.le_of_ble_eq_true rfl⟩) ⟨pc_blind, va_recv hK hP (ci := 3) (q0 := 5) rfl rfl, fun U hU hW => ⟨rfl, pc_mk hP hD hK hS hX hT [5] [] rfl rfl rfl rfl hF16 hU hW⟩⟩ rfl rfl hl.1 rfl (lv_room (Nat.le_of_ble_eq_true rfl)) dX0_makeNet_26 ⟨(Nat.le_of_ble_eq_true rfl), (Nat.le_of_ble_eq_true rfl)⟩) hS (fun q9 _ h9 => hF16 q9 h9) hF16 (fun r19 u18 t18 H18 L18 ht18 hvm18 hw18 hB18 hz18 hk18 hS => ?_)
  obtain ⟨hP, hD, hK⟩ := pq_join (wr := [(h0, .inr (2, [.ref h1, .ref h2, .ref o0, .ref o1])), (h2, .inr (0, [.int 1, .ref h4, .int 1])), (h4, .inl (kc1, 10, .inr (.inr (.inr (.inr (va_up (fun _ => none) 0 (some o2))))))), (a11, .inr (0, [.int 0, .ref z.1, .int 0])), (h1, .inr (0, [.int 2, .ref h3, .int 2])), (h3, .inl (kc0, 10, .inr (.inr (.inr (.inr (va_up (va_up (fun _ => none) 0 (some o2)) 1 (some a1)))))))]) (tr := [(kc1, .object "java/lang/Object"), (kc0, .object "java/lang/Object")]) (wz := [(h0, .inr (2, [.ref h1, .ref h2, .ref o0, .ref o1])), (h2, .inr (0, [.int 1, .ref h4, .int 1])), (h4, .inl (kc1, 10, .inr (.inr (.inr (.inr (va_up (fun _ => none) 0 (some o2))))))), (a11, .inr (0, [.int 0, .ref z.1, .int 0])), (h1, .inr (0, [.int 2, .ref h3, .int 2])), (h3, .inl (kc0, 10, .inr (.inr (.inr (.inr (va_up (va_up (fun _ => none) 0 (some o2)) 1 (some a1))))))), (a1, .inr (3, [.int 1, .ref (z.2.1 0), .ref a11, .null, .int 0, .int 0, .int 120, .int 120, .int 0, .int 0, .int 0, .int 120, .int 120, .int 0, .int 0, .int 0, .ref a1, .int 0, .int 0]))]) (tz := [(kc1, .object "java/lang/Object"), (kc0, .object "java/lang/Object")]) hP hD hK [5] [0, 1, 2, 3, 4, 6] [0, 1] rfl rfl (by decide) (by decide) rfl hk18 hF16 hB18.1 ht18 hvm18 rfl rfl
  have hG : s.heap.size + 2 ≤ H18.size := Nat.le_trans hG hz18
  refine W.eq (g2 := F0 m 29 ls [.int 1]) (by rw [hw18]) ?_
  refine lv_if_eq (tgt := 41) hx hb dX0_makeNet_29 (by decide) (fun cz => absurd cz (by decide)) (fun _ => ?_)
  refine lv_aload_n hx hb dX0_makeNet_32 rfl (lv_at hl 1 rfl) ?_
  refine va_get (D := (dC, dI)) (ci := 2) (v := .ref h2) (C := RX0) (T := TX0) (N := 4) hx hb hts in_X0 hown hK hP 0 rfl rfl 1 (by decide) (hts _ q_29) (fun _ h9 => h9) rfl dX0_makeNet_33 ?_
  refine lv_aload_n hx hb dX0_makeNet_36 rfl (lv_at hl 0 rfl) ?_
  have hF20 := va_free (wc := [(h2, .inr (0, [.int 1, .ref h4, .int 1])), (a1, .inr (3, [.int 1, .ref (z.2.1 0), .ref a11, .null, .int 0, .int 0, .int 120, .int 120, .int 0, .int 0, .int 0, .int 120, .int 120, .int 0, .int 0, .int 0, .ref a1, .int 0, .int 0])), (h4, .inl (kc1, 10, .inr (.inr (.inr (.inr (va_up (fun _ => none) 0 (some o2)))))))]) hD hS hA [1, 6, 2] rfl
  refine va_calli (va_runV (As := [.ref a1]) (rest := []) ⟨hx, hb, hml, hown, hts⟩ (k84_add l hl9 dC dI z h2 a1 h4 a11 o2 H18.size kc1) (cwV 1 hts (gV q_127 q_128 q_129 q_12 q_126) rfl rfl rfl (by decide +kernel) ⟨Nat.le_of_ble_eq_true rfl, Nat.le_of_ble_eq_true rfl⟩) ⟨pc_blind, va_recv hK hP (ci := 0) (q0 := 1) rfl rfl, fun U hU hW => ⟨rfl, pc_mk hP hD hK hS hX hT [1, 6, 2] [0] rfl rfl rfl rfl hF20 hU hW⟩⟩ rfl rfl hl.1 rfl (lv_room (Nat.le_of_ble_eq_true rfl)) dX0_makeNet_37 ⟨(Nat.le_of_ble_eq_true rfl), (Nat.le_of_ble_eq_true rfl)⟩) hS (fun q9 _ h9 => hF20 q9 h9) hF20 (fun r23 u22 t22 H22 L22 ht22 hvm22 hw22 hB22 hz22 hk22 hS => ?_)
  obtain ⟨hP, hD, hK⟩ := pq_join (wr := [(h0, .inr (2, [.ref h1, .ref h2, .ref o0, .ref o1])), (a11, .inr (0, [.int 0, .ref z.1, .int 0])), (h1, .inr (0, [.int 2, .ref h3, .int 2])), (h3, .inl (kc0, 10, .inr (.inr (.inr (.inr (va_up (va_up (fun _ => none) 0 (some o2)) 1 (some a1)))))))]) (tr := [(kc0, .object "java/lang/Object")]) (wz := [(h0, .inr (2, [.ref h1, .ref h2, .ref o0, .ref o1])), (a11, .inr (0, [.int 0, .ref z.1, .int 0])), (h1, .inr (0, [.int 2, .ref h3, .int 2])), (h3, .inl (kc0, 10, .inr (.inr (.inr (.inr (va_up (va_up (fun _ => none) 0 (some o2)) 1 (some a1))))))), (h2, .inr (0, [.int 2, .ref h4, .int 2])), (a1, .inr (3, [.int 1, .ref (z.2.1 0), .ref a11, .null, .int 0, .int 0, .int 120, .int 120, .int 0, .int 0, .int 0, .int 120, .int 120, .int 0, .int 0, .int 0, .ref a1, .int 0, .int 0])), (h4, .inl (kc1, 10, .inr (.inr (.inr (.inr (va_up (va_up (fun _ => none) 0 (some o2)) 1 (some a1)))))))]) (tz := [(kc0, .object "java/lang/Object"), (kc1, .object "java/lang/Object")]) hP hD hK [1, 6, 2] [0, 3, 4, 5] [1] rfl rfl (by decide) (by decide) rfl hk22 hF20 hB22.1 ht22 hvm22 rfl rfl
  have hG : s.heap.size + 2 ≤ H22.size := Nat.le_trans hG hz22
  refine W.eq (g2 := F0 m 40 ls [.int 1]) (by rw [hw22]) ?_
  refine lv_pop hx hb dX0_makeNet_40 rfl ?_
  refine lv_aload_n hx hb dX0_makeNet_41 rfl (lv_at hl 0 rfl) ?_
  exact W.aret (v := .ref a1) hx hb hr (by first | exact Or.inl ⟨_, rfl⟩ | exact Or.inr ⟨_, rfl⟩) (Or.inr ⟨_, rfl⟩) (fun t9 ht9 hW9 => ⟨⟨(), a1, rfl, trivial, ⟨a1, a11, rfl, ⟨pq_mk (wc := [(h0, .inr (2, [.ref h1, .ref h2, .ref o0, .ref o1])), (h1, .inr (0, [.int 2, .ref h3, .int 2])), (h2, .inr (0, [.int 2, .ref h4, .int 2])), (h3, .inl (kc0, 10, .inr (.inr (.inr (.inr (va_up (va_up (fun _ => none) 0 (some o2)) 1 (some a1))))))), (h4, .inl (kc1, 10, .inr (.inr (.inr (.inr (va_up (va_up (fun _ => none) 0 (some o2)) 1 (some a1))))))), (a1, .inr (3, [.int 1, .ref (z.2.1 0), .ref a11, .null, .int 0, .int 0, .int 120, .int 120, .int 0, .int 0, .int 0, .int 120, .int 120, .int 0, .int 0, .int 0, .ref a1, .int 0, .int 0])), (a11, .inr (0, [.int 0, .ref z.1, .int 0]))]) (tc := [(kc0, .object "java/lang/Object"), (kc1, .object "java/lang/Object")]) hP hD hK [0, 2, 4, 3, 6, 5, 1] [0, 1] rfl rfl rfl rfl ht9 hW9, by rw [ht9]; exact Nat.le_trans (Nat.add_le_add_left (Nat.le_of_ble_eq_true rfl) _) hG⟩⟩⟩, hS.F ht9⟩) hS.2.2 dX0_makeNet_42

set_option maxHeartbeats 4000000 in
set_option maxRecDepth 100000 in
theorem k87_clear (l : Launch) (hl9 : l.stackTraces = false) (dC : Nat → ClassId) (dI : Nat → Nat → Nat) (z : XZ) (h0 h1 : Nat) (o0 : Nat) (sz : Nat) (kc0 : ClassId) : Met l yJx4a65c_clear_da8c8 (.code yJx4a65c_clear_da8c8 cJx4a65c_clear_da8c8 4 none :: wsL_law) ({ frames := 0, cells := 0, slots := 0, locals := 0 }) (va_Pc [.ref h0] (PC (dC, dI) [(h0, .inr (0, [.int 2, .ref h1, .int 1])), (h1, .inl (kc0, 10, .inr (.inr (.inr (.inr (va_up (fun _ => none) 0 (some o0)))))))] [(kc0, .object "java/lang/Object")] sz z)) (va_Qv (fun (_ : Unit) => True) (fun (_ : Unit) (t : State) => PG (dC, dI) [(h0, .inr (0, [.int 3, .ref h1, .int 0])), (h1, .inl (kc0, 10, .inr (.inr (.inr (.inr (va_up (fun _ => none) 0 none))))))] [(kc0, .object "java/lang/Object")] (va_A [(h0, .inr (0, [.int 2, .ref h1, .int 1])), (h1, .inl (kc0, 10, .inr (.inr (.inr (.inr (va_up (fun _ => none) 0 (some o0)))))))] sz) sz 0 t) (va_A [(h0, .inr (0, [.int 2, .ref h1, .int 1])), (h1, .inl (kc0, 10, .inr (.inr (.inr (.inr (va_up (fun _ => none) 0 (some o0)))))))] sz)) 0 0 (va_A [(h0, .inr (0, [.int 2, .ref h1, .int 1])), (h1, .inl (kc0, 10, .inr (.inr (.inr (.inr (va_up (fun _ => none) 0 (some o0)))))))] sz) := by
  refine Met.ofW (cc := cJx4a65c_clear_da8c8) (maxL := 4) (ret := none) (by decide) rfl ?_
  intro p e s m args below meth c s₁ B hml hv
  obtain ⟨rfl, hsz, hP, hK, hD0, hX, hT⟩ := hv
  have hx := B.exec
  have hb := B.bytes
  have hr := B.returns
  have hts0 := atoms_spec (ws := .code yJx4a65c_clear_da8c8 cJx4a65c_clear_da8c8 4 none :: wsL_law) B.pre
  have hts := xTail hts0
  have hown : s.vm.findClass RJx4a65c = some m.cls := findClass_of_methodNamed B.named
  have hlocks := B.notSynchronized
  subst hsz
  have hD := hD0.self (sz := s.heap.size)
  generalize hAe : va_A [(h0, .inr (0, [.int 2, .ref h1, .int 1])), (h1, .inl (kc0, 10, .inr (.inr (.inr (.inr (va_up (fun _ => none) 0 (some o0)))))))] s.heap.size = A at hD hX ⊢
  have hA : ∀ q : Nat, s.heap.size ≤ q → A q := fun q h => by rw [← hAe]; exact Or.inr h
  have hS : va_S A s.heap s.heap [] := va_S.rf
  have hG : s.heap.size + 0 ≤ s.heap.size := Nat.le_refl _
  have hl := lv_entry ([.ref h0]) (n := 4) (Nat.le_of_ble_eq_true rfl)
  rw [lg_entry_eq]
  generalize (lg_sl ([.ref h0]) ++ List.replicate (4 - (lg_sl ([.ref h0])).length) Slot.unset).toArray = ls at hl ⊢
  have hl : lv_has ls 4 [(0, .ref h0)] := hl
  refine lv_aload_n hx hb dJx4a65c_clear_da8c8_0 rfl (lv_at hl 0 rfl) ?_
  refine lv_dup hx hb dJx4a65c_clear_da8c8_1 rfl ?_
  refine va_get (D := (dC, dI)) (ci := 0) (v := .int 2) (C := RJx4a65c) (T := TJx4a65c) (N := 3) hx hb hts in_Jx4a65c hown hK hP 0 rfl rfl 0 (by decide) (hts _ q_108) (u_same (hts _ q_107)) rfl dJx4a65c_clear_da8c8_2 ?_
  refine lv_iconst (v := 1) hx hb dJx4a65c_clear_da8c8_5 (by decide) ?_
  refine lv_iadd hx hb dJx4a65c_clear_da8c8_6 ?_
  refine lv_topi (fun y1 ey1 => ?_)
  obtain rfl : y1 = 3 := ey1.trans (by decide)
  refine va_put (D := (dC, dI)) (ci := 0) (v := .int 3) (ty := .int) (C := RJx4a65c) (T := TJx4a65c) (N := 3) hx hb hts in_Jx4a65c tyJx4a65c tyJx4a65c_ok nmJx4a65c hown hK hP hD (va_Sre hS) 0 rfl rfl 0 (by decide) (hts _ q_108) (u_same (hts _ q_107)) rfl (by decide +kernel) rfl rfl (Nat.le_of_ble_eq_true rfl) dJx4a65c_clear_da8c8_7 (fun H2 _ hP hD hS' => ?_)
  have hG : s.heap.size + 0 ≤ H2.size := Nat.le_trans hG hS'.1
  have hS := va_Str hS hS'
  have hP : va_P (dC, dI) xCl [(h0, .inr (0, [.int 3, .ref h1, .int 1])), (h1, .inl (kc0, 10, .inr (.inr (.inr (.inr (va_up (fun _ => none) 0 (some o0)))))))] H2 := hP
  have hD : va_D A [(h0, .inr (0, [.int 3, .ref h1, .int 1])), (h1, .inl (kc0, 10, .inr (.inr (.inr (.inr (va_up (fun _ => none) 0 (some o0)))))))] := hD
  refine lv_aload_n hx hb dJx4a65c_clear_da8c8_10 rfl (lv_at hl 0 rfl) ?_
  refine va_get (D := (dC, dI)) (ci := 0) (v := .ref h1) (C := RJx4a65c) (T := TJx4a65c) (N := 3) hx hb hts in_Jx4a65c hown hK hP 0 rfl rfl 1 (by decide) (hts _ q_24) (fun _ h9 => h9) rfl dJx4a65c_clear_da8c8_11 ?_
  refine lv_astore_n (lv' := [(1, .ref h1), (0, .ref h0)]) hx hb dJx4a65c_clear_da8c8_14 rfl hl (by decide) rfl (fun ls hl => ?_)
  refine lv_aload_n hx hb dJx4a65c_clear_da8c8_15 rfl (lv_at hl 1 rfl) ?_
  refine va_get (D := (dC, dI)) (ci := 0) (v := .int 1) (C := RJx4a65c) (T := TJx4a65c) (N := 3) hx hb hts in_Jx4a65c hown hK hP 0 rfl rfl 2 (by decide) (hts _ q_74) (fun _ h9 => h9) rfl dJx4a65c_clear_da8c8_16 ?_
  refine lv_istore_n (lv' := [(2, .int 1), (1, .ref h1), (0, .ref h0)]) hx hb dJx4a65c_clear_da8c8_19 rfl hl (by decide) rfl (fun ls hl => ?_)
  refine lv_aload_n hx hb dJx4a65c_clear_da8c8_20 rfl (lv_at hl 2 rfl) ?_
  refine lv_iconst (v := 0) hx hb dJx4a65c_clear_da8c8_21 (by decide) ?_
  refine lv_dup_x1 hx hb dJx4a65c_clear_da8c8_22 rfl rfl ?_
  refine va_put (D := (dC, dI)) (ci := 0) (v := .int 0) (ty := .int) (C := RJx4a65c) (T := TJx4a65c) (N := 3) hx hb hts in_Jx4a65c tyJx4a65c tyJx4a65c_ok nmJx4a65c hown hK hP hD (va_Sre hS) 0 rfl rfl 2 (by decide) (hts _ q_74) (fun _ h9 => h9) rfl (by decide +kernel) rfl rfl (Nat.le_of_ble_eq_true rfl) dJx4a65c_clear_da8c8_23 (fun H3 _ hP hD hS' => ?_)
  have hG : s.heap.size + 0 ≤ H3.size := Nat.le_trans hG hS'.1
  have hS := va_Str hS hS'
  have hP : va_P (dC, dI) xCl [(h0, .inr (0, [.int 3, .ref h1, .int 0])), (h1, .inl (kc0, 10, .inr (.inr (.inr (.inr (va_up (fun _ => none) 0 (some o0)))))))] H3 := hP
  have hD : va_D A [(h0, .inr (0, [.int 3, .ref h1, .int 0])), (h1, .inl (kc0, 10, .inr (.inr (.inr (.inr (va_up (fun _ => none) 0 (some o0)))))))] := hD
  refine lv_istore_n (lv' := [(3, .int 0), (2, .int 1), (1, .ref h1), (0, .ref h0)]) hx hb dJx4a65c_clear_da8c8_26 rfl hl (by decide) rfl (fun ls hl => ?_)
  refine lv_iload_n hx hb dJx4a65c_clear_da8c8_27 rfl (lv_at hl 0 rfl) ?_
  refine lv_iload_n hx hb dJx4a65c_clear_da8c8_28 rfl (lv_at hl 1 rfl) ?_
  refine lv_icmp_ge (tgt := 42) hx hb dJx4a65c_clear_da8c8_29 (by decide) (fun cz => absurd cz (by decide)) (fun _ => ?_)
  refine lv_aload_n hx hb dJx4a65c_clear_da8c8_32 rfl (lv_at hl 2 rfl) ?_
  refine lv_iload_n hx hb dJx4a65c_clear_da8c8_33 rfl (lv_at hl 0 rfl) ?_
  refine lv_null hx hb dJx4a65c_clear_da8c8_34 ?_
  refine va_astqN hx hb hK hP hD (va_Sre hS) 1 0 rfl rfl (i := 0) (by unfold vp_in; decide) dJx4a65c_clear_da8c8_35 (fun H4 _ hP hD hS' => ?_)
  have hG : s.heap.size + 0 ≤ H4.size := Nat.le_trans hG hS'.1
  have hS := va_Str hS hS'
  have hP : va_P (dC, dI) xCl [(h0, .inr (0, [.int 3, .ref h1, .int 0])), (h1, .inl (kc0, 10, .inr (.inr (.inr (.inr (va_up (va_up (fun _ => none) 0 (some o0)) 0 none))))))] H4 := hP
  have hD : va_D A [(h0, .inr (0, [.int 3, .ref h1, .int 0])), (h1, .inl (kc0, 10, .inr (.inr (.inr (.inr (va_up (va_up (fun _ => none) 0 (some o0)) 0 none))))))] := hD
  refine lv_iinc (v := 1) (lv' := [(3, .int 1), (2, .int 1), (1, .ref h1), (0, .ref h0)]) hx hb dJx4a65c_clear_da8c8_36 hl (k := 0) rfl (by decide) (by decide) rfl (fun ls hl => ?_)
  refine lv_goto (tgt := 27) hx hb dJx4a65c_clear_da8c8_39 (by decide) ?_
  refine lv_iload_n hx hb dJx4a65c_clear_da8c8_27 rfl (lv_at hl 0 rfl) ?_
  refine lv_iload_n hx hb dJx4a65c_clear_da8c8_28 rfl (lv_at hl 1 rfl) ?_
  refine lv_icmp_ge (tgt := 42) hx hb dJx4a65c_clear_da8c8_29 (by decide) (fun _ => ?_) (fun cz => absurd (by decide) cz)
  have hu5 : (va_up (va_up (fun _ => none) 0 (some o0)) 0 none) = (va_up (fun _ => none) 0 none) := by funext j; by_cases g0 : j = 0; (subst g0; rfl); simp only [va_up, g0, if_false]
  rw [hu5] at hP hD
  have hP : va_P (dC, dI) xCl [(h0, .inr (0, [.int 3, .ref h1, .int 0])), (h1, .inl (kc0, 10, .inr (.inr (.inr (.inr (va_up (fun _ => none) 0 none))))))] H4 := hP
  have hD : va_D A [(h0, .inr (0, [.int 3, .ref h1, .int 0])), (h1, .inl (kc0, 10, .inr (.inr (.inr (.inr (va_up (fun _ => none) 0 none))))))] := hD
  exact W.vret hx hb hr (fun t9 ht9 hW9 => ⟨⟨(), rfl, trivial, ⟨pq_mk (wc := [(h0, .inr (0, [.int 3, .ref h1, .int 0])), (h1, .inl (kc0, 10, .inr (.inr (.inr (.inr (va_up (fun _ => none) 0 none))))))]) (tc := [(kc0, .object "java/lang/Object")]) hP hD hK [0, 1] [0] rfl rfl rfl rfl ht9 hW9, by rw [ht9]; exact Nat.le_trans (Nat.add_le_add_left (Nat.le_of_ble_eq_true rfl) _) hG⟩⟩, hS.F ht9⟩) hS.2.2 dJx4a65c_clear_da8c8_42

set_option maxHeartbeats 4000000 in
set_option maxRecDepth 100000 in
theorem k88_checkIndex (l : Launch) (hl9 : l.stackTraces = false) (dC : Nat → ClassId) (dI : Nat → Nat → Nat) (z : XZ) (sz : Nat) : Met l yJ3_checkIndex_8e157 (.code yJ3_checkIndex_8e157 cJ3_checkIndex_8e157 3 (some .int) :: wsL_law) ({ frames := 0, cells := 0, slots := 0, locals := 0 }) (va_Pc [.int 0, .int 2, .null] (PC (dC, dI) [] [] sz z)) (va_Qi (fun (r : Int32) (_ : Unit) => r = 0) (fun (_ : Unit) (t : State) => PG (dC, dI) [] [] (va_A [] sz) sz 0 t) (va_A [] sz)) 0 0 (va_A [] sz) := by
  refine Met.ofW (cc := cJ3_checkIndex_8e157) (maxL := 3) (ret := (some .int)) (by decide) rfl ?_
  intro p e s m args below meth c s₁ B hml hv
  obtain ⟨rfl, hsz, hP, hK, hD0, hX, hT⟩ := hv
  have hx := B.exec
  have hb := B.bytes
  have hr := B.returns
  have hts0 := atoms_spec (ws := .code yJ3_checkIndex_8e157 cJ3_checkIndex_8e157 3 (some .int) :: wsL_law) B.pre
  have hts := xTail hts0
  have hown : s.vm.findClass RJ3 = some m.cls := findClass_of_methodNamed B.named
  have hlocks := B.notSynchronized
  subst hsz
  have hD := hD0.self (sz := s.heap.size)
  generalize hAe : va_A [] s.heap.size = A at hD hX ⊢
  have hA : ∀ q : Nat, s.heap.size ≤ q → A q := fun q h => by rw [← hAe]; exact Or.inr h
  have hS : va_S A s.heap s.heap [] := va_S.rf
  have hG : s.heap.size + 0 ≤ s.heap.size := Nat.le_refl _
  have hl := lv_entry ([.int 0, .int 2, .null]) (n := 3) (Nat.le_of_ble_eq_true rfl)
  rw [lg_entry_eq]
  generalize (lg_sl ([.int 0, .int 2, .null]) ++ List.replicate (3 - (lg_sl ([.int 0, .int 2, .null])).length) Slot.unset).toArray = ls at hl ⊢
  have hl : lv_has ls 3 [(0, .int 0), (1, .int 2), (2, .null)] := hl
  refine lv_iload_n hx hb dJ3_checkIndex_8e157_0 rfl (lv_at hl 0 rfl) ?_
  refine lv_if_lt (tgt := 9) hx hb dJ3_checkIndex_8e157_1 (by decide) (fun cz => absurd cz (by decide)) (fun _ => ?_)
  refine lv_iload_n hx hb dJ3_checkIndex_8e157_4 rfl (lv_at hl 0 rfl) ?_
  refine lv_iload_n hx hb dJ3_checkIndex_8e157_5 rfl (lv_at hl 1 rfl) ?_
  refine lv_icmp_lt (tgt := 16) hx hb dJ3_checkIndex_8e157_6 (by decide) (fun _ => ?_) (fun cz => absurd (by decide) cz)
  refine lv_iload_n hx hb dJ3_checkIndex_8e157_16 rfl (lv_at hl 0 rfl) ?_
  exact W.iret (v := 0) hx hb hr (fun t9 ht9 hW9 => ⟨⟨0, (), rfl, rfl, ⟨pq_mk (wc := []) (tc := []) hP hD hK [] [] rfl rfl rfl rfl ht9 hW9, by rw [ht9]; exact Nat.le_trans (Nat.add_le_add_left (Nat.le_of_ble_eq_true rfl) _) hG⟩⟩, hS.F ht9⟩) hS.2.2 dJ3_checkIndex_8e157_17

set_option maxHeartbeats 4000000 in
set_option maxRecDepth 100000 in
theorem k89_checkIndex (l : Launch) (hl9 : l.stackTraces = false) (dC : Nat → ClassId) (dI : Nat → Nat → Nat) (z : XZ) (sz : Nat) : Met l yJ15_checkIndex_7cf53 (.code yJ15_checkIndex_7cf53 cJ15_checkIndex_7cf53 2 (some .int) :: wsL_law) ({ frames := 1, cells := 0, slots := 0, locals := 22 }) (va_Pc [.int 0, .int 2] (PC (dC, dI) [] [] sz z)) (va_Qi (fun (r : Int32) (_ : Unit) => r = 0) (fun (_ : Unit) (t : State) => PG (dC, dI) [] [] (va_A [] sz) sz 0 t) (va_A [] sz)) 0 0 (va_A [] sz) := by
  refine Met.ofW (cc := cJ15_checkIndex_7cf53) (maxL := 2) (ret := (some .int)) (by decide) rfl ?_
  intro p e s m args below meth c s₁ B hml hv
  obtain ⟨rfl, hsz, hP, hK, hD0, hX, hT⟩ := hv
  have hx := B.exec
  have hb := B.bytes
  have hr := B.returns
  have hts0 := atoms_spec (ws := .code yJ15_checkIndex_7cf53 cJ15_checkIndex_7cf53 2 (some .int) :: wsL_law) B.pre
  have hts := xTail hts0
  have hown : s.vm.findClass RJ15 = some m.cls := findClass_of_methodNamed B.named
  have hlocks := B.notSynchronized
  subst hsz
  have hD := hD0.self (sz := s.heap.size)
  generalize hAe : va_A [] s.heap.size = A at hD hX ⊢
  have hA : ∀ q : Nat, s.heap.size ≤ q → A q := fun q h => by rw [← hAe]; exact Or.inr h
  have hS : va_S A s.heap s.heap [] := va_S.rf
  have hG : s.heap.size + 0 ≤ s.heap.size := Nat.le_refl _
  have hl := lv_entry ([.int 0, .int 2]) (n := 2) (Nat.le_of_ble_eq_true rfl)
  rw [lg_entry_eq]
  generalize (lg_sl ([.int 0, .int 2]) ++ List.replicate (2 - (lg_sl ([.int 0, .int 2])).length) Slot.unset).toArray = ls at hl ⊢
  have hl : lv_has ls 2 [(0, .int 0), (1, .int 2)] := hl
  refine lv_iload_n hx hb dJ15_checkIndex_7cf53_0 rfl (lv_at hl 0 rfl) ?_
  refine lv_iload_n hx hb dJ15_checkIndex_7cf53_1 rfl (lv_at hl 1 rfl) ?_
  refine lv_null hx hb dJ15_checkIndex_7cf53_2 ?_
  have hF1 := va_free (wc := []) hD hS hA [] rfl
  refine va_calli (va_runS (As := [.int 0, .int 2, .null]) (rest := []) ⟨hx, hb, hml, hown, hts⟩ (k88_checkIndex l hl9 dC dI z s.heap.size) (va_cwS 3 hts (gS q_144 q_145 q_146 q_143) rfl rfl rfl (by decide +kernel) ⟨Nat.le_of_ble_eq_true rfl, Nat.le_of_ble_eq_true rfl⟩) ⟨pc_blind, fun U hU hW => ⟨rfl, pc_mk hP hD hK hS hX hT [] [] rfl rfl rfl rfl hF1 hU hW⟩⟩ rfl rfl hl.1 rfl (lv_room (Nat.le_of_ble_eq_true rfl)) dJ15_checkIndex_7cf53_3 ⟨(Nat.le_of_ble_eq_true rfl), (Nat.le_of_ble_eq_true rfl)⟩) hS (fun q9 _ h9 => hF1 q9 h9) hF1 (fun r4 u3 t3 H3 L3 ht3 hvm3 hw3 hB3 hz3 hk3 hS => ?_)
  obtain ⟨hP, hD, hK⟩ := pq_join (wr := []) (tr := []) (wz := []) (tz := []) hP hD hK [] [] [] rfl rfl (by decide) (by decide) rfl hk3 hF1 hB3.1 ht3 hvm3 rfl rfl
  have hG : s.heap.size + 0 ≤ H3.size := Nat.le_trans hG hz3
  refine W.eq (g2 := F0 m 6 ls [.int 0]) (by rw [hw3]) ?_
  exact W.iret (v := 0) hx hb hr (fun t9 ht9 hW9 => ⟨⟨0, (), rfl, rfl, ⟨pq_mk (wc := []) (tc := []) hP hD hK [] [] rfl rfl rfl rfl ht9 hW9, by rw [ht9]; exact Nat.le_trans (Nat.add_le_add_left (Nat.le_of_ble_eq_true rfl) _) hG⟩⟩, hS.F ht9⟩) hS.2.2 dJ15_checkIndex_7cf53_6

set_option maxHeartbeats 4000000 in
set_option maxRecDepth 100000 in
theorem k90_elementData (l : Launch) (hl9 : l.stackTraces = false) (dC : Nat → ClassId) (dI : Nat → Nat → Nat) (z : XZ) (h0 h1 : Nat) (o0 o1 : Nat) (sz : Nat) (kc0 : ClassId) : Met l yJx4a65c_elementData_915e3 (.code yJx4a65c_elementData_915e3 cJx4a65c_elementData_915e3 2 (some (.object "java/lang/Object")) :: wsL_law) ({ frames := 0, cells := 0, slots := 0, locals := 0 }) (va_Pc [.ref h0, .int 0] (PC (dC, dI) [(h0, .inr (0, [.int 2, .ref h1, .int 2])), (h1, .inl (kc0, 10, .inr (.inr (.inr (.inr (va_up (va_up (fun _ => none) 0 (some o0)) 1 (some o1)))))))] [(kc0, .object "java/lang/Object")] sz z)) (va_Qr (fun (_ : Unit) => True) (fun (_ : Unit) (ra : Nat) (t : State) => ra = o0 ∧ PG (dC, dI) [(h0, .inr (0, [.int 2, .ref h1, .int 2])), (h1, .inl (kc0, 10, .inr (.inr (.inr (.inr (va_up (va_up (fun _ => none) 0 (some o0)) 1 (some o1)))))))] [(kc0, .object "java/lang/Object")] (va_A [(h0, .inr (0, [.int 2, .ref h1, .int 2])), (h1, .inl (kc0, 10, .inr (.inr (.inr (.inr (va_up (va_up (fun _ => none) 0 (some o0)) 1 (some o1)))))))] sz) sz 0 t) (va_A [(h0, .inr (0, [.int 2, .ref h1, .int 2])), (h1, .inl (kc0, 10, .inr (.inr (.inr (.inr (va_up (va_up (fun _ => none) 0 (some o0)) 1 (some o1)))))))] sz)) 0 0 (va_A [(h0, .inr (0, [.int 2, .ref h1, .int 2])), (h1, .inl (kc0, 10, .inr (.inr (.inr (.inr (va_up (va_up (fun _ => none) 0 (some o0)) 1 (some o1)))))))] sz) := by
  refine Met.ofW (cc := cJx4a65c_elementData_915e3) (maxL := 2) (ret := (some (.object "java/lang/Object"))) (by decide) rfl ?_
  intro p e s m args below meth c s₁ B hml hv
  obtain ⟨rfl, hsz, hP, hK, hD0, hX, hT⟩ := hv
  have hx := B.exec
  have hb := B.bytes
  have hr := B.returns
  have hts0 := atoms_spec (ws := .code yJx4a65c_elementData_915e3 cJx4a65c_elementData_915e3 2 (some (.object "java/lang/Object")) :: wsL_law) B.pre
  have hts := xTail hts0
  have hown : s.vm.findClass RJx4a65c = some m.cls := findClass_of_methodNamed B.named
  have hlocks := B.notSynchronized
  subst hsz
  have hD := hD0.self (sz := s.heap.size)
  generalize hAe : va_A [(h0, .inr (0, [.int 2, .ref h1, .int 2])), (h1, .inl (kc0, 10, .inr (.inr (.inr (.inr (va_up (va_up (fun _ => none) 0 (some o0)) 1 (some o1)))))))] s.heap.size = A at hD hX ⊢
  have hA : ∀ q : Nat, s.heap.size ≤ q → A q := fun q h => by rw [← hAe]; exact Or.inr h
  have hS : va_S A s.heap s.heap [] := va_S.rf
  have hG : s.heap.size + 0 ≤ s.heap.size := Nat.le_refl _
  have hl := lv_entry ([.ref h0, .int 0]) (n := 2) (Nat.le_of_ble_eq_true rfl)
  rw [lg_entry_eq]
  generalize (lg_sl ([.ref h0, .int 0]) ++ List.replicate (2 - (lg_sl ([.ref h0, .int 0])).length) Slot.unset).toArray = ls at hl ⊢
  have hl : lv_has ls 2 [(0, .ref h0), (1, .int 0)] := hl
  refine lv_aload_n hx hb dJx4a65c_elementData_915e3_0 rfl (lv_at hl 0 rfl) ?_
  refine va_get (D := (dC, dI)) (ci := 0) (v := .ref h1) (C := RJx4a65c) (T := TJx4a65c) (N := 3) hx hb hts in_Jx4a65c hown hK hP 0 rfl rfl 1 (by decide) (hts _ q_24) (fun _ h9 => h9) rfl dJx4a65c_elementData_915e3_1 ?_
  refine lv_iload_n hx hb dJx4a65c_elementData_915e3_4 rfl (lv_at hl 1 rfl) ?_
  refine va_aldq hx hb hK hP 1 0 rfl rfl (i := 0) (by unfold vp_in; decide) dJx4a65c_elementData_915e3_5 ?_
  refine W.eq (g2 := F0 m 6 ls [.ref o0]) rfl ?_
  exact W.aret (v := .ref o0) hx hb hr (by first | exact Or.inl ⟨_, rfl⟩ | exact Or.inr ⟨_, rfl⟩) (Or.inr ⟨_, rfl⟩) (fun t9 ht9 hW9 => ⟨⟨(), o0, rfl, trivial, ⟨rfl, ⟨pq_mk (wc := [(h0, .inr (0, [.int 2, .ref h1, .int 2])), (h1, .inl (kc0, 10, .inr (.inr (.inr (.inr (va_up (va_up (fun _ => none) 0 (some o0)) 1 (some o1)))))))]) (tc := [(kc0, .object "java/lang/Object")]) hP hD hK [0, 1] [0] rfl rfl rfl rfl ht9 hW9, by rw [ht9]; exact Nat.le_trans (Nat.add_le_add_left (Nat.le_of_ble_eq_true rfl) _) hG⟩⟩⟩, hS.F ht9⟩) hS.2.2 dJx4a65c_elementData_915e3_6

set_option maxHeartbeats 4000000 in
set_option maxRecDepth 100000 in
theorem k91_get (l : Launch) (hl9 : l.stackTraces = false) (dC : Nat → ClassId) (dI : Nat → Nat → Nat) (z : XZ) (h0 h1 : Nat) (o0 o1 : Nat) (sz : Nat) (kc0 : ClassId) : Met l yJx4a65c_get_915e3 (.code yJx4a65c_get_915e3 cJx4a65c_get_915e3 2 (some (.object "java/lang/Object")) :: wsL_law) ({ frames := 2, cells := 0, slots := 0, locals := 43 }) (va_Pc [.ref h0, .int 0] (PC (dC, dI) [(h0, .inr (0, [.int 2, .ref h1, .int 2])), (h1, .inl (kc0, 10, .inr (.inr (.inr (.inr (va_up (va_up (fun _ => none) 0 (some o0)) 1 (some o1)))))))] [(kc0, .object "java/lang/Object")] sz z)) (va_Qr (fun (_ : Unit) => True) (fun (_ : Unit) (ra : Nat) (t : State) => ra = o0 ∧ PG (dC, dI) [(h0, .inr (0, [.int 2, .ref h1, .int 2])), (h1, .inl (kc0, 10, .inr (.inr (.inr (.inr (va_up (va_up (fun _ => none) 0 (some o0)) 1 (some o1)))))))] [(kc0, .object "java/lang/Object")] (va_A [(h0, .inr (0, [.int 2, .ref h1, .int 2])), (h1, .inl (kc0, 10, .inr (.inr (.inr (.inr (va_up (va_up (fun _ => none) 0 (some o0)) 1 (some o1)))))))] sz) sz 0 t) (va_A [(h0, .inr (0, [.int 2, .ref h1, .int 2])), (h1, .inl (kc0, 10, .inr (.inr (.inr (.inr (va_up (va_up (fun _ => none) 0 (some o0)) 1 (some o1)))))))] sz)) 0 0 (va_A [(h0, .inr (0, [.int 2, .ref h1, .int 2])), (h1, .inl (kc0, 10, .inr (.inr (.inr (.inr (va_up (va_up (fun _ => none) 0 (some o0)) 1 (some o1)))))))] sz) := by
  refine Met.ofW (cc := cJx4a65c_get_915e3) (maxL := 2) (ret := (some (.object "java/lang/Object"))) (by decide) rfl ?_
  intro p e s m args below meth c s₁ B hml hv
  obtain ⟨rfl, hsz, hP, hK, hD0, hX, hT⟩ := hv
  have hx := B.exec
  have hb := B.bytes
  have hr := B.returns
  have hts0 := atoms_spec (ws := .code yJx4a65c_get_915e3 cJx4a65c_get_915e3 2 (some (.object "java/lang/Object")) :: wsL_law) B.pre
  have hts := xTail hts0
  have hown : s.vm.findClass RJx4a65c = some m.cls := findClass_of_methodNamed B.named
  have hlocks := B.notSynchronized
  subst hsz
  have hD := hD0.self (sz := s.heap.size)
  generalize hAe : va_A [(h0, .inr (0, [.int 2, .ref h1, .int 2])), (h1, .inl (kc0, 10, .inr (.inr (.inr (.inr (va_up (va_up (fun _ => none) 0 (some o0)) 1 (some o1)))))))] s.heap.size = A at hD hX ⊢
  have hA : ∀ q : Nat, s.heap.size ≤ q → A q := fun q h => by rw [← hAe]; exact Or.inr h
  have hS : va_S A s.heap s.heap [] := va_S.rf
  have hG : s.heap.size + 0 ≤ s.heap.size := Nat.le_refl _
  have hl := lv_entry ([.ref h0, .int 0]) (n := 2) (Nat.le_of_ble_eq_true rfl)
  rw [lg_entry_eq]
  generalize (lg_sl ([.ref h0, .int 0]) ++ List.replicate (2 - (lg_sl ([.ref h0, .int 0])).length) Slot.unset).toArray = ls at hl ⊢
  have hl : lv_has ls 2 [(0, .ref h0), (1, .int 0)] := hl
  refine lv_iload_n hx hb dJx4a65c_get_915e3_0 rfl (lv_at hl 1 rfl) ?_
  refine lv_aload_n hx hb dJx4a65c_get_915e3_1 rfl (lv_at hl 0 rfl) ?_
  refine va_get (D := (dC, dI)) (ci := 0) (v := .int 2) (C := RJx4a65c) (T := TJx4a65c) (N := 3) hx hb hts in_Jx4a65c hown hK hP 0 rfl rfl 2 (by decide) (hts _ q_74) (fun _ h9 => h9) rfl dJx4a65c_get_915e3_2 ?_
  have hF1 := va_free (wc := []) hD hS hA [] rfl
  refine va_calli (va_runS (As := [.int 0, .int 2]) (rest := []) ⟨hx, hb, hml, hown, hts⟩ (k89_checkIndex l hl9 dC dI z s.heap.size) (va_cwS 2 hts (gS q_148 q_149 q_150 q_147) rfl rfl rfl (by decide +kernel) ⟨Nat.le_of_ble_eq_true rfl, Nat.le_of_ble_eq_true rfl⟩) ⟨pc_blind, fun U hU hW => ⟨rfl, pc_mk hP hD hK hS hX hT [] [] rfl rfl rfl rfl hF1 hU hW⟩⟩ rfl rfl hl.1 rfl (lv_room (Nat.le_of_ble_eq_true rfl)) dJx4a65c_get_915e3_5 ⟨(Nat.le_of_ble_eq_true rfl), (Nat.le_of_ble_eq_true rfl)⟩) hS (fun q9 _ h9 => hF1 q9 h9) hF1 (fun r4 u3 t3 H3 L3 ht3 hvm3 hw3 hB3 hz3 hk3 hS => ?_)
  obtain ⟨hP, hD, hK⟩ := pq_join (wr := [(h0, .inr (0, [.int 2, .ref h1, .int 2])), (h1, .inl (kc0, 10, .inr (.inr (.inr (.inr (va_up (va_up (fun _ => none) 0 (some o0)) 1 (some o1)))))))]) (tr := [(kc0, .object "java/lang/Object")]) (wz := [(h0, .inr (0, [.int 2, .ref h1, .int 2])), (h1, .inl (kc0, 10, .inr (.inr (.inr (.inr (va_up (va_up (fun _ => none) 0 (some o0)) 1 (some o1)))))))]) (tz := [(kc0, .object "java/lang/Object")]) hP hD hK [] [0, 1] [0] rfl rfl (by decide) (by decide) rfl hk3 hF1 hB3.1 ht3 hvm3 rfl rfl
  have hG : s.heap.size + 0 ≤ H3.size := Nat.le_trans hG hz3
  refine W.eq (g2 := F0 m 8 ls [.int 0]) (by rw [hw3]) ?_
  refine lv_pop hx hb dJx4a65c_get_915e3_8 rfl ?_
  refine lv_aload_n hx hb dJx4a65c_get_915e3_9 rfl (lv_at hl 0 rfl) ?_
  refine lv_iload_n hx hb dJx4a65c_get_915e3_10 rfl (lv_at hl 1 rfl) ?_
  have hF5 := va_free (wc := [(h0, .inr (0, [.int 2, .ref h1, .int 2])), (h1, .inl (kc0, 10, .inr (.inr (.inr (.inr (va_up (va_up (fun _ => none) 0 (some o0)) 1 (some o1)))))))]) hD hS hA [0, 1] rfl
  refine va_callr (va_runV (As := [.int 0]) (rest := []) ⟨hx, hb, hml, hown, hts⟩ (k90_elementData l hl9 dC dI z h0 h1 o0 o1 H3.size kc0) (cwV 1 hts (gV q_152 q_153 q_154 q_12 q_151) rfl rfl rfl (by decide +kernel) ⟨Nat.le_of_ble_eq_true rfl, Nat.le_of_ble_eq_true rfl⟩) ⟨pc_blind, va_recv hK hP (ci := 0) (q0 := 0) rfl rfl, fun U hU hW => ⟨rfl, pc_mk hP hD hK hS hX hT [0, 1] [0] rfl rfl rfl rfl hF5 hU hW⟩⟩ rfl rfl hl.1 rfl (lv_room (Nat.le_of_ble_eq_true rfl)) dJx4a65c_get_915e3_11 ⟨(Nat.le_of_ble_eq_true rfl), (Nat.le_of_ble_eq_true rfl)⟩) hS (fun q9 _ h9 => hF5 q9 h9) hF5 (fun u7 r8 t7 H7 L7 ht7 hvm7 hw7 hB7 hz7 hk7 hS => ?_)
  obtain ⟨hr7, hB7⟩ := hB7
  obtain ⟨hP, hD, hK⟩ := pq_join (wr := []) (tr := []) (wz := [(h0, .inr (0, [.int 2, .ref h1, .int 2])), (h1, .inl (kc0, 10, .inr (.inr (.inr (.inr (va_up (va_up (fun _ => none) 0 (some o0)) 1 (some o1)))))))]) (tz := [(kc0, .object "java/lang/Object")]) hP hD hK [0, 1] [] [] rfl rfl (by decide) (by decide) rfl hk7 hF5 hB7.1 ht7 hvm7 rfl rfl
  have hG : s.heap.size + 0 ≤ H7.size := Nat.le_trans hG hz7
  refine W.eq (g2 := F0 m 14 ls [.ref o0]) (by rw [hr7]) ?_
  exact W.aret (v := .ref o0) hx hb hr (by first | exact Or.inl ⟨_, rfl⟩ | exact Or.inr ⟨_, rfl⟩) (Or.inr ⟨_, rfl⟩) (fun t9 ht9 hW9 => ⟨⟨(), o0, rfl, trivial, ⟨rfl, ⟨pq_mk (wc := [(h0, .inr (0, [.int 2, .ref h1, .int 2])), (h1, .inl (kc0, 10, .inr (.inr (.inr (.inr (va_up (va_up (fun _ => none) 0 (some o0)) 1 (some o1)))))))]) (tc := [(kc0, .object "java/lang/Object")]) hP hD hK [0, 1] [0] rfl rfl rfl rfl ht9 hW9, by rw [ht9]; exact Nat.le_trans (Nat.add_le_add_left (Nat.le_of_ble_eq_true rfl) _) hG⟩⟩⟩, hS.F ht9⟩) hS.2.2 dJx4a65c_get_915e3_14

set_option maxHeartbeats 4000000 in
set_option maxRecDepth 100000 in
theorem k92_checkIndex (l : Launch) (hl9 : l.stackTraces = false) (dC : Nat → ClassId) (dI : Nat → Nat → Nat) (z : XZ) (sz : Nat) : Met l yJ3_checkIndex_8e157 (.code yJ3_checkIndex_8e157 cJ3_checkIndex_8e157 3 (some .int) :: wsL_law) ({ frames := 0, cells := 0, slots := 0, locals := 0 }) (va_Pc [.int 1, .int 2, .null] (PC (dC, dI) [] [] sz z)) (va_Qi (fun (r : Int32) (_ : Unit) => r = 1) (fun (_ : Unit) (t : State) => PG (dC, dI) [] [] (va_A [] sz) sz 0 t) (va_A [] sz)) 0 0 (va_A [] sz) := by
  refine Met.ofW (cc := cJ3_checkIndex_8e157) (maxL := 3) (ret := (some .int)) (by decide) rfl ?_
  intro p e s m args below meth c s₁ B hml hv
  obtain ⟨rfl, hsz, hP, hK, hD0, hX, hT⟩ := hv
  have hx := B.exec
  have hb := B.bytes
  have hr := B.returns
  have hts0 := atoms_spec (ws := .code yJ3_checkIndex_8e157 cJ3_checkIndex_8e157 3 (some .int) :: wsL_law) B.pre
  have hts := xTail hts0
  have hown : s.vm.findClass RJ3 = some m.cls := findClass_of_methodNamed B.named
  have hlocks := B.notSynchronized
  subst hsz
  have hD := hD0.self (sz := s.heap.size)
  generalize hAe : va_A [] s.heap.size = A at hD hX ⊢
  have hA : ∀ q : Nat, s.heap.size ≤ q → A q := fun q h => by rw [← hAe]; exact Or.inr h
  have hS : va_S A s.heap s.heap [] := va_S.rf
  have hG : s.heap.size + 0 ≤ s.heap.size := Nat.le_refl _
  have hl := lv_entry ([.int 1, .int 2, .null]) (n := 3) (Nat.le_of_ble_eq_true rfl)
  rw [lg_entry_eq]
  generalize (lg_sl ([.int 1, .int 2, .null]) ++ List.replicate (3 - (lg_sl ([.int 1, .int 2, .null])).length) Slot.unset).toArray = ls at hl ⊢
  have hl : lv_has ls 3 [(0, .int 1), (1, .int 2), (2, .null)] := hl
  refine lv_iload_n hx hb dJ3_checkIndex_8e157_0 rfl (lv_at hl 0 rfl) ?_
  refine lv_if_lt (tgt := 9) hx hb dJ3_checkIndex_8e157_1 (by decide) (fun cz => absurd cz (by decide)) (fun _ => ?_)
  refine lv_iload_n hx hb dJ3_checkIndex_8e157_4 rfl (lv_at hl 0 rfl) ?_
  refine lv_iload_n hx hb dJ3_checkIndex_8e157_5 rfl (lv_at hl 1 rfl) ?_
  refine lv_icmp_lt (tgt := 16) hx hb dJ3_checkIndex_8e157_6 (by decide) (fun _ => ?_) (fun cz => absurd (by decide) cz)
  refine lv_iload_n hx hb dJ3_checkIndex_8e157_16 rfl (lv_at hl 0 rfl) ?_
  exact W.iret (v := 1) hx hb hr (fun t9 ht9 hW9 => ⟨⟨1, (), rfl, rfl, ⟨pq_mk (wc := []) (tc := []) hP hD hK [] [] rfl rfl rfl rfl ht9 hW9, by rw [ht9]; exact Nat.le_trans (Nat.add_le_add_left (Nat.le_of_ble_eq_true rfl) _) hG⟩⟩, hS.F ht9⟩) hS.2.2 dJ3_checkIndex_8e157_17

set_option maxHeartbeats 4000000 in
set_option maxRecDepth 100000 in
theorem k93_checkIndex (l : Launch) (hl9 : l.stackTraces = false) (dC : Nat → ClassId) (dI : Nat → Nat → Nat) (z : XZ) (sz : Nat) : Met l yJ15_checkIndex_7cf53 (.code yJ15_checkIndex_7cf53 cJ15_checkIndex_7cf53 2 (some .int) :: wsL_law) ({ frames := 1, cells := 0, slots := 0, locals := 22 }) (va_Pc [.int 1, .int 2] (PC (dC, dI) [] [] sz z)) (va_Qi (fun (r : Int32) (_ : Unit) => r = 1) (fun (_ : Unit) (t : State) => PG (dC, dI) [] [] (va_A [] sz) sz 0 t) (va_A [] sz)) 0 0 (va_A [] sz) := by
  refine Met.ofW (cc := cJ15_checkIndex_7cf53) (maxL := 2) (ret := (some .int)) (by decide) rfl ?_
  intro p e s m args below meth c s₁ B hml hv
  obtain ⟨rfl, hsz, hP, hK, hD0, hX, hT⟩ := hv
  have hx := B.exec
  have hb := B.bytes
  have hr := B.returns
  have hts0 := atoms_spec (ws := .code yJ15_checkIndex_7cf53 cJ15_checkIndex_7cf53 2 (some .int) :: wsL_law) B.pre
  have hts := xTail hts0
  have hown : s.vm.findClass RJ15 = some m.cls := findClass_of_methodNamed B.named
  have hlocks := B.notSynchronized
  subst hsz
  have hD := hD0.self (sz := s.heap.size)
  generalize hAe : va_A [] s.heap.size = A at hD hX ⊢
  have hA : ∀ q : Nat, s.heap.size ≤ q → A q := fun q h => by rw [← hAe]; exact Or.inr h
  have hS : va_S A s.heap s.heap [] := va_S.rf
  have hG : s.heap.size + 0 ≤ s.heap.size := Nat.le_refl _
  have hl := lv_entry ([.int 1, .int 2]) (n := 2) (Nat.le_of_ble_eq_true rfl)
  rw [lg_entry_eq]
  generalize (lg_sl ([.int 1, .int 2]) ++ List.replicate (2 - (lg_sl ([.int 1, .int 2])).length) Slot.unset).toArray = ls at hl ⊢
  have hl : lv_has ls 2 [(0, .int 1), (1, .int 2)] := hl
  refine lv_iload_n hx hb dJ15_checkIndex_7cf53_0 rfl (lv_at hl 0 rfl) ?_
  refine lv_iload_n hx hb dJ15_checkIndex_7cf53_1 rfl (lv_at hl 1 rfl) ?_
  refine lv_null hx hb dJ15_checkIndex_7cf53_2 ?_
  have hF1 := va_free (wc := []) hD hS hA [] rfl
  refine va_calli (va_runS (As := [.int 1, .int 2, .null]) (rest := []) ⟨hx, hb, hml, hown, hts⟩ (k92_checkIndex l hl9 dC dI z s.heap.size) (va_cwS 3 hts (gS q_144 q_145 q_146 q_143) rfl rfl rfl (by decide +kernel) ⟨Nat.le_of_ble_eq_true rfl, Nat.le_of_ble_eq_true rfl⟩) ⟨pc_blind, fun U hU hW => ⟨rfl, pc_mk hP hD hK hS hX hT [] [] rfl rfl rfl rfl hF1 hU hW⟩⟩ rfl rfl hl.1 rfl (lv_room (Nat.le_of_ble_eq_true rfl)) dJ15_checkIndex_7cf53_3 ⟨(Nat.le_of_ble_eq_true rfl), (Nat.le_of_ble_eq_true rfl)⟩) hS (fun q9 _ h9 => hF1 q9 h9) hF1 (fun r4 u3 t3 H3 L3 ht3 hvm3 hw3 hB3 hz3 hk3 hS => ?_)
  obtain ⟨hP, hD, hK⟩ := pq_join (wr := []) (tr := []) (wz := []) (tz := []) hP hD hK [] [] [] rfl rfl (by decide) (by decide) rfl hk3 hF1 hB3.1 ht3 hvm3 rfl rfl
  have hG : s.heap.size + 0 ≤ H3.size := Nat.le_trans hG hz3
  refine W.eq (g2 := F0 m 6 ls [.int 1]) (by rw [hw3]) ?_
  exact W.iret (v := 1) hx hb hr (fun t9 ht9 hW9 => ⟨⟨1, (), rfl, rfl, ⟨pq_mk (wc := []) (tc := []) hP hD hK [] [] rfl rfl rfl rfl ht9 hW9, by rw [ht9]; exact Nat.le_trans (Nat.add_le_add_left (Nat.le_of_ble_eq_true rfl) _) hG⟩⟩, hS.F ht9⟩) hS.2.2 dJ15_checkIndex_7cf53_6

set_option maxHeartbeats 4000000 in
set_option maxRecDepth 100000 in
theorem k94_elementData (l : Launch) (hl9 : l.stackTraces = false) (dC : Nat → ClassId) (dI : Nat → Nat → Nat) (z : XZ) (h0 h1 : Nat) (o0 o1 : Nat) (sz : Nat) (kc0 : ClassId) : Met l yJx4a65c_elementData_915e3 (.code yJx4a65c_elementData_915e3 cJx4a65c_elementData_915e3 2 (some (.object "java/lang/Object")) :: wsL_law) ({ frames := 0, cells := 0, slots := 0, locals := 0 }) (va_Pc [.ref h0, .int 1] (PC (dC, dI) [(h0, .inr (0, [.int 2, .ref h1, .int 2])), (h1, .inl (kc0, 10, .inr (.inr (.inr (.inr (va_up (va_up (fun _ => none) 0 (some o0)) 1 (some o1)))))))] [(kc0, .object "java/lang/Object")] sz z)) (va_Qr (fun (_ : Unit) => True) (fun (_ : Unit) (ra : Nat) (t : State) => ra = o1 ∧ PG (dC, dI) [(h0, .inr (0, [.int 2, .ref h1, .int 2])), (h1, .inl (kc0, 10, .inr (.inr (.inr (.inr (va_up (va_up (fun _ => none) 0 (some o0)) 1 (some o1)))))))] [(kc0, .object "java/lang/Object")] (va_A [(h0, .inr (0, [.int 2, .ref h1, .int 2])), (h1, .inl (kc0, 10, .inr (.inr (.inr (.inr (va_up (va_up (fun _ => none) 0 (some o0)) 1 (some o1)))))))] sz) sz 0 t) (va_A [(h0, .inr (0, [.int 2, .ref h1, .int 2])), (h1, .inl (kc0, 10, .inr (.inr (.inr (.inr (va_up (va_up (fun _ => none) 0 (some o0)) 1 (some o1)))))))] sz)) 0 0 (va_A [(h0, .inr (0, [.int 2, .ref h1, .int 2])), (h1, .inl (kc0, 10, .inr (.inr (.inr (.inr (va_up (va_up (fun _ => none) 0 (some o0)) 1 (some o1)))))))] sz) := by
  refine Met.ofW (cc := cJx4a65c_elementData_915e3) (maxL := 2) (ret := (some (.object "java/lang/Object"))) (by decide) rfl ?_
  intro p e s m args below meth c s₁ B hml hv
  obtain ⟨rfl, hsz, hP, hK, hD0, hX, hT⟩ := hv
  have hx := B.exec
  have hb := B.bytes
  have hr := B.returns
  have hts0 := atoms_spec (ws := .code yJx4a65c_elementData_915e3 cJx4a65c_elementData_915e3 2 (some (.object "java/lang/Object")) :: wsL_law) B.pre
  have hts := xTail hts0
  have hown : s.vm.findClass RJx4a65c = some m.cls := findClass_of_methodNamed B.named
  have hlocks := B.notSynchronized
  subst hsz
  have hD := hD0.self (sz := s.heap.size)
  generalize hAe : va_A [(h0, .inr (0, [.int 2, .ref h1, .int 2])), (h1, .inl (kc0, 10, .inr (.inr (.inr (.inr (va_up (va_up (fun _ => none) 0 (some o0)) 1 (some o1)))))))] s.heap.size = A at hD hX ⊢
  have hA : ∀ q : Nat, s.heap.size ≤ q → A q := fun q h => by rw [← hAe]; exact Or.inr h
  have hS : va_S A s.heap s.heap [] := va_S.rf
  have hG : s.heap.size + 0 ≤ s.heap.size := Nat.le_refl _
  have hl := lv_entry ([.ref h0, .int 1]) (n := 2) (Nat.le_of_ble_eq_true rfl)
  rw [lg_entry_eq]
  generalize (lg_sl ([.ref h0, .int 1]) ++ List.replicate (2 - (lg_sl ([.ref h0, .int 1])).length) Slot.unset).toArray = ls at hl ⊢
  have hl : lv_has ls 2 [(0, .ref h0), (1, .int 1)] := hl
  refine lv_aload_n hx hb dJx4a65c_elementData_915e3_0 rfl (lv_at hl 0 rfl) ?_
  refine va_get (D := (dC, dI)) (ci := 0) (v := .ref h1) (C := RJx4a65c) (T := TJx4a65c) (N := 3) hx hb hts in_Jx4a65c hown hK hP 0 rfl rfl 1 (by decide) (hts _ q_24) (fun _ h9 => h9) rfl dJx4a65c_elementData_915e3_1 ?_
  refine lv_iload_n hx hb dJx4a65c_elementData_915e3_4 rfl (lv_at hl 1 rfl) ?_
  refine va_aldq hx hb hK hP 1 0 rfl rfl (i := 1) (by unfold vp_in; decide) dJx4a65c_elementData_915e3_5 ?_
  refine W.eq (g2 := F0 m 6 ls [.ref o1]) rfl ?_
  exact W.aret (v := .ref o1) hx hb hr (by first | exact Or.inl ⟨_, rfl⟩ | exact Or.inr ⟨_, rfl⟩) (Or.inr ⟨_, rfl⟩) (fun t9 ht9 hW9 => ⟨⟨(), o1, rfl, trivial, ⟨rfl, ⟨pq_mk (wc := [(h0, .inr (0, [.int 2, .ref h1, .int 2])), (h1, .inl (kc0, 10, .inr (.inr (.inr (.inr (va_up (va_up (fun _ => none) 0 (some o0)) 1 (some o1)))))))]) (tc := [(kc0, .object "java/lang/Object")]) hP hD hK [0, 1] [0] rfl rfl rfl rfl ht9 hW9, by rw [ht9]; exact Nat.le_trans (Nat.add_le_add_left (Nat.le_of_ble_eq_true rfl) _) hG⟩⟩⟩, hS.F ht9⟩) hS.2.2 dJx4a65c_elementData_915e3_6

set_option maxHeartbeats 4000000 in
set_option maxRecDepth 100000 in
theorem k95_get (l : Launch) (hl9 : l.stackTraces = false) (dC : Nat → ClassId) (dI : Nat → Nat → Nat) (z : XZ) (h0 h1 : Nat) (o0 o1 : Nat) (sz : Nat) (kc0 : ClassId) : Met l yJx4a65c_get_915e3 (.code yJx4a65c_get_915e3 cJx4a65c_get_915e3 2 (some (.object "java/lang/Object")) :: wsL_law) ({ frames := 2, cells := 0, slots := 0, locals := 43 }) (va_Pc [.ref h0, .int 1] (PC (dC, dI) [(h0, .inr (0, [.int 2, .ref h1, .int 2])), (h1, .inl (kc0, 10, .inr (.inr (.inr (.inr (va_up (va_up (fun _ => none) 0 (some o0)) 1 (some o1)))))))] [(kc0, .object "java/lang/Object")] sz z)) (va_Qr (fun (_ : Unit) => True) (fun (_ : Unit) (ra : Nat) (t : State) => ra = o1 ∧ PG (dC, dI) [(h0, .inr (0, [.int 2, .ref h1, .int 2])), (h1, .inl (kc0, 10, .inr (.inr (.inr (.inr (va_up (va_up (fun _ => none) 0 (some o0)) 1 (some o1)))))))] [(kc0, .object "java/lang/Object")] (va_A [(h0, .inr (0, [.int 2, .ref h1, .int 2])), (h1, .inl (kc0, 10, .inr (.inr (.inr (.inr (va_up (va_up (fun _ => none) 0 (some o0)) 1 (some o1)))))))] sz) sz 0 t) (va_A [(h0, .inr (0, [.int 2, .ref h1, .int 2])), (h1, .inl (kc0, 10, .inr (.inr (.inr (.inr (va_up (va_up (fun _ => none) 0 (some o0)) 1 (some o1)))))))] sz)) 0 0 (va_A [(h0, .inr (0, [.int 2, .ref h1, .int 2])), (h1, .inl (kc0, 10, .inr (.inr (.inr (.inr (va_up (va_up (fun _ => none) 0 (some o0)) 1 (some o1)))))))] sz) := by
  refine Met.ofW (cc := cJx4a65c_get_915e3) (maxL := 2) (ret := (some (.object "java/lang/Object"))) (by decide) rfl ?_
  intro p e s m args below meth c s₁ B hml hv
  obtain ⟨rfl, hsz, hP, hK, hD0, hX, hT⟩ := hv
  have hx := B.exec
  have hb := B.bytes
  have hr := B.returns
  have hts0 := atoms_spec (ws := .code yJx4a65c_get_915e3 cJx4a65c_get_915e3 2 (some (.object "java/lang/Object")) :: wsL_law) B.pre
  have hts := xTail hts0
  have hown : s.vm.findClass RJx4a65c = some m.cls := findClass_of_methodNamed B.named
  have hlocks := B.notSynchronized
  subst hsz
  have hD := hD0.self (sz := s.heap.size)
  generalize hAe : va_A [(h0, .inr (0, [.int 2, .ref h1, .int 2])), (h1, .inl (kc0, 10, .inr (.inr (.inr (.inr (va_up (va_up (fun _ => none) 0 (some o0)) 1 (some o1)))))))] s.heap.size = A at hD hX ⊢
  have hA : ∀ q : Nat, s.heap.size ≤ q → A q := fun q h => by rw [← hAe]; exact Or.inr h
  have hS : va_S A s.heap s.heap [] := va_S.rf
  have hG : s.heap.size + 0 ≤ s.heap.size := Nat.le_refl _
  have hl := lv_entry ([.ref h0, .int 1]) (n := 2) (Nat.le_of_ble_eq_true rfl)
  rw [lg_entry_eq]
  generalize (lg_sl ([.ref h0, .int 1]) ++ List.replicate (2 - (lg_sl ([.ref h0, .int 1])).length) Slot.unset).toArray = ls at hl ⊢
  have hl : lv_has ls 2 [(0, .ref h0), (1, .int 1)] := hl
  refine lv_iload_n hx hb dJx4a65c_get_915e3_0 rfl (lv_at hl 1 rfl) ?_
  refine lv_aload_n hx hb dJx4a65c_get_915e3_1 rfl (lv_at hl 0 rfl) ?_
  refine va_get (D := (dC, dI)) (ci := 0) (v := .int 2) (C := RJx4a65c) (T := TJx4a65c) (N := 3) hx hb hts in_Jx4a65c hown hK hP 0 rfl rfl 2 (by decide) (hts _ q_74) (fun _ h9 => h9) rfl dJx4a65c_get_915e3_2 ?_
  have hF1 := va_free (wc := []) hD hS hA [] rfl
  refine va_calli (va_runS (As := [.int 1, .int 2]) (rest := []) ⟨hx, hb, hml, hown, hts⟩ (k93_checkIndex l hl9 dC dI z s.heap.size) (va_cwS 2 hts (gS q_148 q_149 q_150 q_147) rfl rfl rfl (by decide +kernel) ⟨Nat.le_of_ble_eq_true rfl, Nat.le_of_ble_eq_true rfl⟩) ⟨pc_blind, fun U hU hW => ⟨rfl, pc_mk hP hD hK hS hX hT [] [] rfl rfl rfl rfl hF1 hU hW⟩⟩ rfl rfl hl.1 rfl (lv_room (Nat.le_of_ble_eq_true rfl)) dJx4a65c_get_915e3_5 ⟨(Nat.le_of_ble_eq_true rfl), (Nat.le_of_ble_eq_true rfl)⟩) hS (fun q9 _ h9 => hF1 q9 h9) hF1 (fun r4 u3 t3 H3 L3 ht3 hvm3 hw3 hB3 hz3 hk3 hS => ?_)
  obtain ⟨hP, hD, hK⟩ := pq_join (wr := [(h0, .inr (0, [.int 2, .ref h1, .int 2])), (h1, .inl (kc0, 10, .inr (.inr (.inr (.inr (va_up (va_up (fun _ => none) 0 (some o0)) 1 (some o1)))))))]) (tr := [(kc0, .object "java/lang/Object")]) (wz := [(h0, .inr (0, [.int 2, .ref h1, .int 2])), (h1, .inl (kc0, 10, .inr (.inr (.inr (.inr (va_up (va_up (fun _ => none) 0 (some o0)) 1 (some o1)))))))]) (tz := [(kc0, .object "java/lang/Object")]) hP hD hK [] [0, 1] [0] rfl rfl (by decide) (by decide) rfl hk3 hF1 hB3.1 ht3 hvm3 rfl rfl
  have hG : s.heap.size + 0 ≤ H3.size := Nat.le_trans hG hz3
  refine W.eq (g2 := F0 m 8 ls [.int 1]) (by rw [hw3]) ?_
  refine lv_pop hx hb dJx4a65c_get_915e3_8 rfl ?_
  refine lv_aload_n hx hb dJx4a65c_get_915e3_9 rfl (lv_at hl 0 rfl) ?_
  refine lv_iload_n hx hb dJx4a65c_get_915e3_10 rfl (lv_at hl 1 rfl) ?_
  have hF5 := va_free (wc := [(h0, .inr (0, [.int 2, .ref h1, .int 2])), (h1, .inl (kc0, 10, .inr (.inr (.inr (.inr (va_up (va_up (fun _ => none) 0 (some o0)) 1 (some o1)))))))]) hD hS hA [0, 1] rfl
  refine va_callr (va_runV (As := [.int 1]) (rest := []) ⟨hx, hb, hml, hown, hts⟩ (k94_elementData l hl9 dC dI z h0 h1 o0 o1 H3.size kc0) (cwV 1 hts (gV q_152 q_153 q_154 q_12 q_151) rfl rfl rfl (by decide +kernel) ⟨Nat.le_of_ble_eq_true rfl, Nat.le_of_ble_eq_true rfl⟩) ⟨pc_blind, va_recv hK hP (ci := 0) (q0 := 0) rfl rfl, fun U hU hW => ⟨rfl, pc_mk hP hD hK hS hX hT [0, 1] [0] rfl rfl rfl rfl hF5 hU hW⟩⟩ rfl rfl hl.1 rfl (lv_room (Nat.le_of_ble_eq_true rfl)) dJx4a65c_get_915e3_11 ⟨(Nat.le_of_ble_eq_true rfl), (Nat.le_of_ble_eq_true rfl)⟩) hS (fun q9 _ h9 => hF5 q9 h9) hF5 (fun u7 r8 t7 H7 L7 ht7 hvm7 hw7 hB7 hz7 hk7 hS => ?_)
  obtain ⟨hr7, hB7⟩ := hB7
  obtain ⟨hP, hD, hK⟩ := pq_join (wr := []) (tr := []) (wz := [(h0, .inr (0, [.int 2, .ref h1, .int 2])), (h1, .inl (kc0, 10, .inr (.inr (.inr (.inr (va_up (va_up (fun _ => none) 0 (some o0)) 1 (some o1)))))))]) (tz := [(kc0, .object "java/lang/Object")]) hP hD hK [0, 1] [] [] rfl rfl (by decide) (by decide) rfl hk7 hF5 hB7.1 ht7 hvm7 rfl rfl
  have hG : s.heap.size + 0 ≤ H7.size := Nat.le_trans hG hz7
  refine W.eq (g2 := F0 m 14 ls [.ref o1]) (by rw [hr7]) ?_
  exact W.aret (v := .ref o1) hx hb hr (by first | exact Or.inl ⟨_, rfl⟩ | exact Or.inr ⟨_, rfl⟩) (Or.inr ⟨_, rfl⟩) (fun t9 ht9 hW9 => ⟨⟨(), o1, rfl, trivial, ⟨rfl, ⟨pq_mk (wc := [(h0, .inr (0, [.int 2, .ref h1, .int 2])), (h1, .inl (kc0, 10, .inr (.inr (.inr (.inr (va_up (va_up (fun _ => none) 0 (some o0)) 1 (some o1)))))))]) (tc := [(kc0, .object "java/lang/Object")]) hP hD hK [0, 1] [0] rfl rfl rfl rfl ht9 hW9, by rw [ht9]; exact Nat.le_trans (Nat.add_le_add_left (Nat.le_of_ble_eq_true rfl) _) hG⟩⟩⟩, hS.F ht9⟩) hS.2.2 dJx4a65c_get_915e3_14

set_option maxHeartbeats 4000000 in
set_option maxRecDepth 100000 in
theorem k96_add (l : Launch) (hl9 : l.stackTraces = false) (dC : Nat → ClassId) (dI : Nat → Nat → Nat) (z : XZ) (h0 h1 h2 : Nat) (o0 : Nat) (sz : Nat) (kc0 : ClassId) : Met l yJx4a65c_add_72be8 (.code yJx4a65c_add_72be8 cJx4a65c_add_72be8 4 none :: wsL_law) ({ frames := 0, cells := 0, slots := 0, locals := 0 }) (va_Pc [.ref h0, .ref h1, .ref h2, .int 0] (PC (dC, dI) [(h0, .inr (0, [.int 4, .ref h2, .int 0])), (h1, .inr (3, [.int 0, .ref (z.2.1 0), .ref o0, .null, .int 0, .int 0, .int 120, .int 120, .int 0, .int 0, .int 0, .int 120, .int 120, .int 0, .int 0, .int 0, .ref h1, .int 1, .int 0])), (h2, .inl (kc0, 10, .inr (.inr (.inr (.inr (va_up (fun _ => none) 0 none))))))] [(kc0, .object "java/lang/Object")] sz z)) (va_Qv (fun (_ : Unit) => True) (fun (_ : Unit) (t : State) => PG (dC, dI) [(h0, .inr (0, [.int 4, .ref h2, .int 1])), (h1, .inr (3, [.int 0, .ref (z.2.1 0), .ref o0, .null, .int 0, .int 0, .int 120, .int 120, .int 0, .int 0, .int 0, .int 120, .int 120, .int 0, .int 0, .int 0, .ref h1, .int 1, .int 0])), (h2, .inl (kc0, 10, .inr (.inr (.inr (.inr (va_up (fun _ => none) 0 (some h1)))))))] [(kc0, .object "java/lang/Object")] (va_A [(h0, .inr (0, [.int 4, .ref h2, .int 0])), (h1, .inr (3, [.int 0, .ref (z.2.1 0), .ref o0, .null, .int 0, .int 0, .int 120, .int 120, .int 0, .int 0, .int 0, .int 120, .int 120, .int 0, .int 0, .int 0, .ref h1, .int 1, .int 0])), (h2, .inl (kc0, 10, .inr (.inr (.inr (.inr (va_up (fun _ => none) 0 none))))))] sz) sz 0 t) (va_A [(h0, .inr (0, [.int 4, .ref h2, .int 0])), (h1, .inr (3, [.int 0, .ref (z.2.1 0), .ref o0, .null, .int 0, .int 0, .int 120, .int 120, .int 0, .int 0, .int 0, .int 120, .int 120, .int 0, .int 0, .int 0, .ref h1, .int 1, .int 0])), (h2, .inl (kc0, 10, .inr (.inr (.inr (.inr (va_up (fun _ => none) 0 none))))))] sz)) 0 0 (va_A [(h0, .inr (0, [.int 4, .ref h2, .int 0])), (h1, .inr (3, [.int 0, .ref (z.2.1 0), .ref o0, .null, .int 0, .int 0, .int 120, .int 120, .int 0, .int 0, .int 0, .int 120, .int 120, .int 0, .int 0, .int 0, .ref h1, .int 1, .int 0])), (h2, .inl (kc0, 10, .inr (.inr (.inr (.inr (va_up (fun _ => none) 0 none))))))] sz) := by
  refine Met.ofW (cc := cJx4a65c_add_72be8) (maxL := 4) (ret := none) (by decide) rfl ?_
  intro p e s m args below meth c s₁ B hml hv
  obtain ⟨rfl, hsz, hP, hK, hD0, hX, hT⟩ := hv
  have hx := B.exec
  have hb := B.bytes
  have hr := B.returns
  have hts0 := atoms_spec (ws := .code yJx4a65c_add_72be8 cJx4a65c_add_72be8 4 none :: wsL_law) B.pre
  have hts := xTail hts0
  have hown : s.vm.findClass RJx4a65c = some m.cls := findClass_of_methodNamed B.named
  have hlocks := B.notSynchronized
  subst hsz
  have hD := hD0.self (sz := s.heap.size)
  generalize hAe : va_A [(h0, .inr (0, [.int 4, .ref h2, .int 0])), (h1, .inr (3, [.int 0, .ref (z.2.1 0), .ref o0, .null, .int 0, .int 0, .int 120, .int 120, .int 0, .int 0, .int 0, .int 120, .int 120, .int 0, .int 0, .int 0, .ref h1, .int 1, .int 0])), (h2, .inl (kc0, 10, .inr (.inr (.inr (.inr (va_up (fun _ => none) 0 none))))))] s.heap.size = A at hD hX ⊢
  have hA : ∀ q : Nat, s.heap.size ≤ q → A q := fun q h => by rw [← hAe]; exact Or.inr h
  have hS : va_S A s.heap s.heap [] := va_S.rf
  have hG : s.heap.size + 0 ≤ s.heap.size := Nat.le_refl _
  have hl := lv_entry ([.ref h0, .ref h1, .ref h2, .int 0]) (n := 4) (Nat.le_of_ble_eq_true rfl)
  rw [lg_entry_eq]
  generalize (lg_sl ([.ref h0, .ref h1, .ref h2, .int 0]) ++ List.replicate (4 - (lg_sl ([.ref h0, .ref h1, .ref h2, .int 0])).length) Slot.unset).toArray = ls at hl ⊢
  have hl : lv_has ls 4 [(0, .ref h0), (1, .ref h1), (2, .ref h2), (3, .int 0)] := hl
  refine lv_iload_n hx hb dJx4a65c_add_72be8_0 rfl (lv_at hl 3 rfl) ?_
  refine lv_aload_n hx hb dJx4a65c_add_72be8_1 rfl (lv_at hl 2 rfl) ?_
  refine va_alen hx hb hK hP 2 0 rfl rfl (v := 10) rfl dJx4a65c_add_72be8_2 ?_
  refine lv_icmp_ne (tgt := 11) hx hb dJx4a65c_add_72be8_3 (by decide) (fun _ => ?_) (fun cz => absurd cz (by decide))
  refine lv_aload_n hx hb dJx4a65c_add_72be8_11 rfl (lv_at hl 2 rfl) ?_
  refine lv_iload_n hx hb dJx4a65c_add_72be8_12 rfl (lv_at hl 3 rfl) ?_
  refine lv_aload_n hx hb dJx4a65c_add_72be8_13 rfl (lv_at hl 1 rfl) ?_
  refine vb_astq (E := "java/lang/Object") (C := RX2) hx hb hK hP hD (va_Sre hS) 2 0 rfl rfl (va_recv hK hP (ci := 3) (q0 := 1) rfl rfl) (vb_asgC (hT.2.1.1 (RX2, "java/lang/Object") (by decide))) (i := 0) (by unfold vp_in; decide) dJx4a65c_add_72be8_14 (fun H1 _ hP hD hS' => ?_)
  have hG : s.heap.size + 0 ≤ H1.size := Nat.le_trans hG hS'.1
  have hS := va_Str hS hS'
  have hP : va_P (dC, dI) xCl [(h0, .inr (0, [.int 4, .ref h2, .int 0])), (h1, .inr (3, [.int 0, .ref (z.2.1 0), .ref o0, .null, .int 0, .int 0, .int 120, .int 120, .int 0, .int 0, .int 0, .int 120, .int 120, .int 0, .int 0, .int 0, .ref h1, .int 1, .int 0])), (h2, .inl (kc0, 10, .inr (.inr (.inr (.inr (va_up (va_up (fun _ => none) 0 none) 0 (some h1)))))))] H1 := hP
  have hD : va_D A [(h0, .inr (0, [.int 4, .ref h2, .int 0])), (h1, .inr (3, [.int 0, .ref (z.2.1 0), .ref o0, .null, .int 0, .int 0, .int 120, .int 120, .int 0, .int 0, .int 0, .int 120, .int 120, .int 0, .int 0, .int 0, .ref h1, .int 1, .int 0])), (h2, .inl (kc0, 10, .inr (.inr (.inr (.inr (va_up (va_up (fun _ => none) 0 none) 0 (some h1)))))))] := hD
  refine lv_aload_n hx hb dJx4a65c_add_72be8_15 rfl (lv_at hl 0 rfl) ?_
  refine lv_iload_n hx hb dJx4a65c_add_72be8_16 rfl (lv_at hl 3 rfl) ?_
  refine lv_iconst (v := 1) hx hb dJx4a65c_add_72be8_17 (by decide) ?_
  refine lv_iadd hx hb dJx4a65c_add_72be8_18 ?_
  refine lv_topi (fun y2 ey2 => ?_)
  obtain rfl : y2 = 1 := ey2.trans (by decide)
  refine va_put (D := (dC, dI)) (ci := 0) (v := .int 1) (ty := .int) (C := RJx4a65c) (T := TJx4a65c) (N := 3) hx hb hts in_Jx4a65c tyJx4a65c tyJx4a65c_ok nmJx4a65c hown hK hP hD (va_Sre hS) 0 rfl rfl 2 (by decide) (hts _ q_74) (fun _ h9 => h9) rfl (by decide +kernel) rfl rfl (Nat.le_of_ble_eq_true rfl) dJx4a65c_add_72be8_19 (fun H3 _ hP hD hS' => ?_)
  have hG : s.heap.size + 0 ≤ H3.size := Nat.le_trans hG hS'.1
  have hS := va_Str hS hS'
  have hP : va_P (dC, dI) xCl [(h0, .inr (0, [.int 4, .ref h2, .int 1])), (h1, .inr (3, [.int 0, .ref (z.2.1 0), .ref o0, .null, .int 0, .int 0, .int 120, .int 120, .int 0, .int 0, .int 0, .int 120, .int 120, .int 0, .int 0, .int 0, .ref h1, .int 1, .int 0])), (h2, .inl (kc0, 10, .inr (.inr (.inr (.inr (va_up (va_up (fun _ => none) 0 none) 0 (some h1)))))))] H3 := hP
  have hD : va_D A [(h0, .inr (0, [.int 4, .ref h2, .int 1])), (h1, .inr (3, [.int 0, .ref (z.2.1 0), .ref o0, .null, .int 0, .int 0, .int 120, .int 120, .int 0, .int 0, .int 0, .int 120, .int 120, .int 0, .int 0, .int 0, .ref h1, .int 1, .int 0])), (h2, .inl (kc0, 10, .inr (.inr (.inr (.inr (va_up (va_up (fun _ => none) 0 none) 0 (some h1)))))))] := hD
  have hu4 : (va_up (va_up (fun _ => none) 0 none) 0 (some h1)) = (va_up (fun _ => none) 0 (some h1)) := by funext j; by_cases g0 : j = 0; (subst g0; rfl); simp only [va_up, g0, if_false]
  rw [hu4] at hP hD
  have hP : va_P (dC, dI) xCl [(h0, .inr (0, [.int 4, .ref h2, .int 1])), (h1, .inr (3, [.int 0, .ref (z.2.1 0), .ref o0, .null, .int 0, .int 0, .int 120, .int 120, .int 0, .int 0, .int 0, .int 120, .int 120, .int 0, .int 0, .int 0, .ref h1, .int 1, .int 0])), (h2, .inl (kc0, 10, .inr (.inr (.inr (.inr (va_up (fun _ => none) 0 (some h1)))))))] H3 := hP
  have hD : va_D A [(h0, .inr (0, [.int 4, .ref h2, .int 1])), (h1, .inr (3, [.int 0, .ref (z.2.1 0), .ref o0, .null, .int 0, .int 0, .int 120, .int 120, .int 0, .int 0, .int 0, .int 120, .int 120, .int 0, .int 0, .int 0, .ref h1, .int 1, .int 0])), (h2, .inl (kc0, 10, .inr (.inr (.inr (.inr (va_up (fun _ => none) 0 (some h1)))))))] := hD
  exact W.vret hx hb hr (fun t9 ht9 hW9 => ⟨⟨(), rfl, trivial, ⟨pq_mk (wc := [(h0, .inr (0, [.int 4, .ref h2, .int 1])), (h1, .inr (3, [.int 0, .ref (z.2.1 0), .ref o0, .null, .int 0, .int 0, .int 120, .int 120, .int 0, .int 0, .int 0, .int 120, .int 120, .int 0, .int 0, .int 0, .ref h1, .int 1, .int 0])), (h2, .inl (kc0, 10, .inr (.inr (.inr (.inr (va_up (fun _ => none) 0 (some h1)))))))]) (tc := [(kc0, .object "java/lang/Object")]) hP hD hK [0, 1, 2] [0] rfl rfl rfl rfl ht9 hW9, by rw [ht9]; exact Nat.le_trans (Nat.add_le_add_left (Nat.le_of_ble_eq_true rfl) _) hG⟩⟩, hS.F ht9⟩) hS.2.2 dJx4a65c_add_72be8_22

set_option maxHeartbeats 4000000 in
set_option maxRecDepth 100000 in
theorem k97_add (l : Launch) (hl9 : l.stackTraces = false) (dC : Nat → ClassId) (dI : Nat → Nat → Nat) (z : XZ) (h0 h1 h2 : Nat) (o0 : Nat) (sz : Nat) (kc0 : ClassId) : Met l yJx4a65c_add_9ea2d (.code yJx4a65c_add_9ea2d cJx4a65c_add_9ea2d 2 (some .boolean) :: wsL_law) ({ frames := 1, cells := 0, slots := 0, locals := 23 }) (va_Pc [.ref h0, .ref h1] (PC (dC, dI) [(h0, .inr (0, [.int 3, .ref h2, .int 0])), (h1, .inr (3, [.int 0, .ref (z.2.1 0), .ref o0, .null, .int 0, .int 0, .int 120, .int 120, .int 0, .int 0, .int 0, .int 120, .int 120, .int 0, .int 0, .int 0, .ref h1, .int 1, .int 0])), (h2, .inl (kc0, 10, .inr (.inr (.inr (.inr (va_up (fun _ => none) 0 none))))))] [(kc0, .object "java/lang/Object")] sz z)) (va_Qi (fun (r : Int32) (_ : Unit) => r = 1) (fun (_ : Unit) (t : State) => PG (dC, dI) [(h0, .inr (0, [.int 4, .ref h2, .int 1])), (h1, .inr (3, [.int 0, .ref (z.2.1 0), .ref o0, .null, .int 0, .int 0, .int 120, .int 120, .int 0, .int 0, .int 0, .int 120, .int 120, .int 0, .int 0, .int 0, .ref h1, .int 1, .int 0])), (h2, .inl (kc0, 10, .inr (.inr (.inr (.inr (va_up (fun _ => none) 0 (some h1)))))))] [(kc0, .object "java/lang/Object")] (va_A [(h0, .inr (0, [.int 3, .ref h2, .int 0])), (h1, .inr (3, [.int 0, .ref (z.2.1 0), .ref o0, .null, .int 0, .int 0, .int 120, .int 120, .int 0, .int 0, .int 0, .int 120, .int 120, .int 0, .int 0, .int 0, .ref h1, .int 1, .int 0])), (h2, .inl (kc0, 10, .inr (.inr (.inr (.inr (va_up (fun _ => none) 0 none))))))] sz) sz 0 t) (va_A [(h0, .inr (0, [.int 3, .ref h2, .int 0])), (h1, .inr (3, [.int 0, .ref (z.2.1 0), .ref o0, .null, .int 0, .int 0, .int 120, .int 120, .int 0, .int 0, .int 0, .int 120, .int 120, .int 0, .int 0, .int 0, .ref h1, .int 1, .int 0])), (h2, .inl (kc0, 10, .inr (.inr (.inr (.inr (va_up (fun _ => none) 0 none))))))] sz)) 0 0 (va_A [(h0, .inr (0, [.int 3, .ref h2, .int 0])), (h1, .inr (3, [.int 0, .ref (z.2.1 0), .ref o0, .null, .int 0, .int 0, .int 120, .int 120, .int 0, .int 0, .int 0, .int 120, .int 120, .int 0, .int 0, .int 0, .ref h1, .int 1, .int 0])), (h2, .inl (kc0, 10, .inr (.inr (.inr (.inr (va_up (fun _ => none) 0 none))))))] sz) := by
  refine Met.ofW (cc := cJx4a65c_add_9ea2d) (maxL := 2) (ret := (some .boolean)) (by decide) rfl ?_
  intro p e s m args below meth c s₁ B hml hv
  obtain ⟨rfl, hsz, hP, hK, hD0, hX, hT⟩ := hv
  have hx := B.exec
  have hb := B.bytes
  have hr := B.returns
  have hts0 := atoms_spec (ws := .code yJx4a65c_add_9ea2d cJx4a65c_add_9ea2d 2 (some .boolean) :: wsL_law) B.pre
  have hts := xTail hts0
  have hown : s.vm.findClass RJx4a65c = some m.cls := findClass_of_methodNamed B.named
  have hlocks := B.notSynchronized
  subst hsz
  have hD := hD0.self (sz := s.heap.size)
  generalize hAe : va_A [(h0, .inr (0, [.int 3, .ref h2, .int 0])), (h1, .inr (3, [.int 0, .ref (z.2.1 0), .ref o0, .null, .int 0, .int 0, .int 120, .int 120, .int 0, .int 0, .int 0, .int 120, .int 120, .int 0, .int 0, .int 0, .ref h1, .int 1, .int 0])), (h2, .inl (kc0, 10, .inr (.inr (.inr (.inr (va_up (fun _ => none) 0 none))))))] s.heap.size = A at hD hX ⊢
  have hA : ∀ q : Nat, s.heap.size ≤ q → A q := fun q h => by rw [← hAe]; exact Or.inr h
  have hS : va_S A s.heap s.heap [] := va_S.rf
  have hG : s.heap.size + 0 ≤ s.heap.size := Nat.le_refl _
  have hl := lv_entry ([.ref h0, .ref h1]) (n := 2) (Nat.le_of_ble_eq_true rfl)
  rw [lg_entry_eq]
  generalize (lg_sl ([.ref h0, .ref h1]) ++ List.replicate (2 - (lg_sl ([.ref h0, .ref h1])).length) Slot.unset).toArray = ls at hl ⊢
  have hl : lv_has ls 2 [(0, .ref h0), (1, .ref h1)] := hl
  refine lv_aload_n hx hb dJx4a65c_add_9ea2d_0 rfl (lv_at hl 0 rfl) ?_
  refine lv_dup hx hb dJx4a65c_add_9ea2d_1 rfl ?_
  refine va_get (D := (dC, dI)) (ci := 0) (v := .int 3) (C := RJx4a65c) (T := TJx4a65c) (N := 3) hx hb hts in_Jx4a65c hown hK hP 0 rfl rfl 0 (by decide) (hts _ q_108) (u_same (hts _ q_107)) rfl dJx4a65c_add_9ea2d_2 ?_
  refine lv_iconst (v := 1) hx hb dJx4a65c_add_9ea2d_5 (by decide) ?_
  refine lv_iadd hx hb dJx4a65c_add_9ea2d_6 ?_
  refine lv_topi (fun y1 ey1 => ?_)
  obtain rfl : y1 = 4 := ey1.trans (by decide)
  refine va_put (D := (dC, dI)) (ci := 0) (v := .int 4) (ty := .int) (C := RJx4a65c) (T := TJx4a65c) (N := 3) hx hb hts in_Jx4a65c tyJx4a65c tyJx4a65c_ok nmJx4a65c hown hK hP hD (va_Sre hS) 0 rfl rfl 0 (by decide) (hts _ q_108) (u_same (hts _ q_107)) rfl (by decide +kernel) rfl rfl (Nat.le_of_ble_eq_true rfl) dJx4a65c_add_9ea2d_7 (fun H2 _ hP hD hS' => ?_)
  have hG : s.heap.size + 0 ≤ H2.size := Nat.le_trans hG hS'.1
  have hS := va_Str hS hS'
  have hP : va_P (dC, dI) xCl [(h0, .inr (0, [.int 4, .ref h2, .int 0])), (h1, .inr (3, [.int 0, .ref (z.2.1 0), .ref o0, .null, .int 0, .int 0, .int 120, .int 120, .int 0, .int 0, .int 0, .int 120, .int 120, .int 0, .int 0, .int 0, .ref h1, .int 1, .int 0])), (h2, .inl (kc0, 10, .inr (.inr (.inr (.inr (va_up (fun _ => none) 0 none))))))] H2 := hP
  have hD : va_D A [(h0, .inr (0, [.int 4, .ref h2, .int 0])), (h1, .inr (3, [.int 0, .ref (z.2.1 0), .ref o0, .null, .int 0, .int 0, .int 120, .int 120, .int 0, .int 0, .int 0, .int 120, .int 120, .int 0, .int 0, .int 0, .ref h1, .int 1, .int 0])), (h2, .inl (kc0, 10, .inr (.inr (.inr (.inr (va_up (fun _ => none) 0 none))))))] := hD
  refine lv_aload_n hx hb dJx4a65c_add_9ea2d_10 rfl (lv_at hl 0 rfl) ?_
  refine lv_aload_n hx hb dJx4a65c_add_9ea2d_11 rfl (lv_at hl 1 rfl) ?_
  refine lv_aload_n hx hb dJx4a65c_add_9ea2d_12 rfl (lv_at hl 0 rfl) ?_
  refine va_get (D := (dC, dI)) (ci := 0) (v := .ref h2) (C := RJx4a65c) (T := TJx4a65c) (N := 3) hx hb hts in_Jx4a65c hown hK hP 0 rfl rfl 1 (by decide) (hts _ q_24) (fun _ h9 => h9) rfl dJx4a65c_add_9ea2d_13 ?_
  refine lv_aload_n hx hb dJx4a65c_add_9ea2d_16 rfl (lv_at hl 0 rfl) ?_
  refine va_get (D := (dC, dI)) (ci := 0) (v := .int 0) (C := RJx4a65c) (T := TJx4a65c) (N := 3) hx hb hts in_Jx4a65c hown hK hP 0 rfl rfl 2 (by decide) (hts _ q_74) (fun _ h9 => h9) rfl dJx4a65c_add_9ea2d_17 ?_
  have hF3 := va_free (wc := [(h0, .inr (0, [.int 4, .ref h2, .int 0])), (h1, .inr (3, [.int 0, .ref (z.2.1 0), .ref o0, .null, .int 0, .int 0, .int 120, .int 120, .int 0, .int 0, .int 0, .int 120, .int 120, .int 0, .int 0, .int 0, .ref h1, .int 1, .int 0])), (h2, .inl (kc0, 10, .inr (.inr (.inr (.inr (va_up (fun _ => none) 0 none))))))]) hD hS hA [0, 1, 2] rfl
  refine va_callv (va_runV (As := [.ref h1, .ref h2, .int 0]) (rest := []) ⟨hx, hb, hml, hown, hts⟩ (k96_add l hl9 dC dI z h0 h1 h2 o0 H2.size kc0) (cwV 3 hts (gV q_123 q_124 q_125 q_12 q_122) rfl rfl rfl (by decide +kernel) ⟨Nat.le_of_ble_eq_true rfl, Nat.le_of_ble_eq_true rfl⟩) ⟨pc_blind, va_recv hK hP (ci := 0) (q0 := 0) rfl rfl, fun U hU hW => ⟨rfl, pc_mk hP hD hK hS hX hT [0, 1, 2] [0] rfl rfl rfl rfl hF3 hU hW⟩⟩ rfl rfl hl.1 rfl (lv_room (Nat.le_of_ble_eq_true rfl)) dJx4a65c_add_9ea2d_20 ⟨(Nat.le_of_ble_eq_true rfl), (Nat.le_of_ble_eq_true rfl)⟩) hS (fun q9 _ h9 => hF3 q9 h9) hF3 (fun u5 t5 H5 L5 ht5 hvm5 hw5 hB5 hz5 hk5 hS => ?_)
  obtain ⟨hP, hD, hK⟩ := pq_join (wr := []) (tr := []) (wz := [(h0, .inr (0, [.int 4, .ref h2, .int 1])), (h1, .inr (3, [.int 0, .ref (z.2.1 0), .ref o0, .null, .int 0, .int 0, .int 120, .int 120, .int 0, .int 0, .int 0, .int 120, .int 120, .int 0, .int 0, .int 0, .ref h1, .int 1, .int 0])), (h2, .inl (kc0, 10, .inr (.inr (.inr (.inr (va_up (fun _ => none) 0 (some h1)))))))]) (tz := [(kc0, .object "java/lang/Object")]) hP hD hK [0, 1, 2] [] [] rfl rfl (by decide) (by decide) rfl hk5 hF3 hB5.1 ht5 hvm5 rfl rfl
  have hG : s.heap.size + 0 ≤ H5.size := Nat.le_trans hG hz5
  refine lv_iconst (v := 1) hx hb dJx4a65c_add_9ea2d_23 (by decide) ?_
  exact W.zret (v := 1) (ty := .boolean) hx hb hr rfl (fun t9 ht9 hW9 => ⟨⟨1, (), rfl, rfl, ⟨pq_mk (wc := [(h0, .inr (0, [.int 4, .ref h2, .int 1])), (h1, .inr (3, [.int 0, .ref (z.2.1 0), .ref o0, .null, .int 0, .int 0, .int 120, .int 120, .int 0, .int 0, .int 0, .int 120, .int 120, .int 0, .int 0, .int 0, .ref h1, .int 1, .int 0])), (h2, .inl (kc0, 10, .inr (.inr (.inr (.inr (va_up (fun _ => none) 0 (some h1)))))))]) (tc := [(kc0, .object "java/lang/Object")]) hP hD hK [0, 1, 2] [0] rfl rfl rfl rfl ht9 hW9, by rw [ht9]; exact Nat.le_trans (Nat.add_le_add_left (Nat.le_of_ble_eq_true rfl) _) hG⟩⟩, hS.F ht9⟩) hS.2.2 dJx4a65c_add_9ea2d_24

set_option maxHeartbeats 4000000 in
set_option maxRecDepth 100000 in
theorem k98_readsOnlyPlaced (l : Launch) (hl9 : l.stackTraces = false) (dC : Nat → ClassId) (dI : Nat → Nat → Nat) (z : XZ) (h0 h1 : Nat) (sz : Nat) : Met l yX2_readsOnlyPlaced (.code yX2_readsOnlyPlaced cX2_readsOnlyPlaced 3 (some .boolean) :: wsL_law) ({ frames := 1, cells := 0, slots := 0, locals := 20 }) (va_Pc [.ref h0] (PC (dC, dI) [(h0, .inr (3, [.int 1, .ref (z.2.1 0), .ref h1, .null, .int 0, .int 0, .int 120, .int 120, .int 0, .int 0, .int 0, .int 120, .int 120, .int 0, .int 0, .int 0, .ref h0, .int 0, .int 0])), (h1, .inr (0, [.int 0, .ref z.1, .int 0]))] [] sz z)) (va_Qi (fun (r : Int32) (_ : Unit) => r = 1) (fun (_ : Unit) (t : State) => PG (dC, dI) [(h0, .inr (3, [.int 1, .ref (z.2.1 0), .ref h1, .null, .int 0, .int 0, .int 120, .int 120, .int 0, .int 0, .int 0, .int 120, .int 120, .int 0, .int 0, .int 0, .ref h0, .int 0, .int 0])), (h1, .inr (0, [.int 0, .ref z.1, .int 0]))] [] (va_A [(h0, .inr (3, [.int 1, .ref (z.2.1 0), .ref h1, .null, .int 0, .int 0, .int 120, .int 120, .int 0, .int 0, .int 0, .int 120, .int 120, .int 0, .int 0, .int 0, .ref h0, .int 0, .int 0])), (h1, .inr (0, [.int 0, .ref z.1, .int 0]))] sz) sz 0 t) (va_A [(h0, .inr (3, [.int 1, .ref (z.2.1 0), .ref h1, .null, .int 0, .int 0, .int 120, .int 120, .int 0, .int 0, .int 0, .int 120, .int 120, .int 0, .int 0, .int 0, .ref h0, .int 0, .int 0])), (h1, .inr (0, [.int 0, .ref z.1, .int 0]))] sz)) 0 0 (va_A [(h0, .inr (3, [.int 1, .ref (z.2.1 0), .ref h1, .null, .int 0, .int 0, .int 120, .int 120, .int 0, .int 0, .int 0, .int 120, .int 120, .int 0, .int 0, .int 0, .ref h0, .int 0, .int 0])), (h1, .inr (0, [.int 0, .ref z.1, .int 0]))] sz) := by
  refine Met.ofW (cc := cX2_readsOnlyPlaced) (maxL := 3) (ret := (some .boolean)) (by decide) rfl ?_
  intro p e s m args below meth c s₁ B hml hv
  obtain ⟨rfl, hsz, hP, hK, hD0, hX, hT⟩ := hv
  have hx := B.exec
  have hb := B.bytes
  have hr := B.returns
  have hts0 := atoms_spec (ws := .code yX2_readsOnlyPlaced cX2_readsOnlyPlaced 3 (some .boolean) :: wsL_law) B.pre
  have hts := xTail hts0
  have hown : s.vm.findClass RX2 = some m.cls := findClass_of_methodNamed B.named
  have hlocks := B.notSynchronized
  subst hsz
  have hD := hD0.self (sz := s.heap.size)
  generalize hAe : va_A [(h0, .inr (3, [.int 1, .ref (z.2.1 0), .ref h1, .null, .int 0, .int 0, .int 120, .int 120, .int 0, .int 0, .int 0, .int 120, .int 120, .int 0, .int 0, .int 0, .ref h0, .int 0, .int 0])), (h1, .inr (0, [.int 0, .ref z.1, .int 0]))] s.heap.size = A at hD hX ⊢
  have hA : ∀ q : Nat, s.heap.size ≤ q → A q := fun q h => by rw [← hAe]; exact Or.inr h
  have hS : va_S A s.heap s.heap [] := va_S.rf
  have hG : s.heap.size + 0 ≤ s.heap.size := Nat.le_refl _
  have hl := lv_entry ([.ref h0]) (n := 3) (Nat.le_of_ble_eq_true rfl)
  rw [lg_entry_eq]
  generalize (lg_sl ([.ref h0]) ++ List.replicate (3 - (lg_sl ([.ref h0])).length) Slot.unset).toArray = ls at hl ⊢
  have hl : lv_has ls 3 [(0, .ref h0)] := hl
  refine lv_iconst (v := 0) hx hb dX2_readsOnlyPlaced_0 (by decide) ?_
  refine lv_istore_n (lv' := [(1, .int 0), (0, .ref h0)]) hx hb dX2_readsOnlyPlaced_1 rfl hl (by decide) rfl (fun ls hl => ?_)
  refine lv_iload_n hx hb dX2_readsOnlyPlaced_2 rfl (lv_at hl 0 rfl) ?_
  refine lv_aload_n hx hb dX2_readsOnlyPlaced_3 rfl (lv_at hl 1 rfl) ?_
  refine va_get (D := (dC, dI)) (ci := 3) (v := .ref h1) (C := RX2) (T := TX2) (N := 19) hx hb hts in_X2 hown hK hP 0 rfl rfl 2 (by decide) (hts _ q_96) (fun _ h9 => h9) rfl dX2_readsOnlyPlaced_4 ?_
  have hF1 := va_free (wc := [(h1, .inr (0, [.int 0, .ref z.1, .int 0]))]) hD hS hA [1] rfl
  refine va_calli (va_runV (As := []) (rest := [.int 0]) ⟨hx, hb, hml, hown, hts⟩ (k9_size l hl9 dC dI z h1 s.heap.size 0 0) (cwV 0 hts (gV q_160 q_77 q_78 q_12 q_75) rfl rfl rfl (by decide +kernel) ⟨Nat.le_of_ble_eq_true rfl, Nat.le_of_ble_eq_true rfl⟩) ⟨pc_blind, va_recv hK hP (ci := 0) (q0 := 1) rfl rfl, fun U hU hW => ⟨rfl, pc_mk hP hD hK hS hX hT [1] [] rfl rfl rfl rfl hF1 hU hW⟩⟩ rfl rfl hl.1 rfl (lv_room (Nat.le_of_ble_eq_true rfl)) dX2_readsOnlyPlaced_7 ⟨(Nat.le_of_ble_eq_true rfl), (Nat.le_of_ble_eq_true rfl)⟩) hS (fun q9 _ h9 => hF1 q9 h9) hF1 (fun r4 u3 t3 H3 L3 ht3 hvm3 hw3 hB3 hz3 hk3 hS => ?_)
  obtain ⟨hP, hD, hK⟩ := pq_join (wr := [(h0, .inr (3, [.int 1, .ref (z.2.1 0), .ref h1, .null, .int 0, .int 0, .int 120, .int 120, .int 0, .int 0, .int 0, .int 120, .int 120, .int 0, .int 0, .int 0, .ref h0, .int 0, .int 0]))]) (tr := []) (wz := [(h0, .inr (3, [.int 1, .ref (z.2.1 0), .ref h1, .null, .int 0, .int 0, .int 120, .int 120, .int 0, .int 0, .int 0, .int 120, .int 120, .int 0, .int 0, .int 0, .ref h0, .int 0, .int 0])), (h1, .inr (0, [.int 0, .ref z.1, .int 0]))]) (tz := []) hP hD hK [1] [0] [] rfl rfl (by decide) (by decide) rfl hk3 hF1 hB3.1 ht3 hvm3 rfl rfl
  have hG : s.heap.size + 0 ≤ H3.size := Nat.le_trans hG hz3
  refine W.eq (g2 := F0 m 10 ls [.int 0, .int 0]) (by rw [hw3]) ?_
  refine lv_icmp_ge (tgt := 53) hx hb dX2_readsOnlyPlaced_10 (by decide) (fun _ => ?_) (fun cz => absurd (by decide) cz)
  refine lv_iconst (v := 1) hx hb dX2_readsOnlyPlaced_53 (by decide) ?_
  exact W.zret (v := 1) (ty := .boolean) hx hb hr rfl (fun t9 ht9 hW9 => ⟨⟨1, (), rfl, rfl, ⟨pq_mk (wc := [(h0, .inr (3, [.int 1, .ref (z.2.1 0), .ref h1, .null, .int 0, .int 0, .int 120, .int 120, .int 0, .int 0, .int 0, .int 120, .int 120, .int 0, .int 0, .int 0, .ref h0, .int 0, .int 0])), (h1, .inr (0, [.int 0, .ref z.1, .int 0]))]) (tc := []) hP hD hK [0, 1] [] rfl rfl rfl rfl ht9 hW9, by rw [ht9]; exact Nat.le_trans (Nat.add_le_add_left (Nat.le_of_ble_eq_true rfl) _) hG⟩⟩, hS.F ht9⟩) hS.2.2 dX2_readsOnlyPlaced_54

set_option maxHeartbeats 4000000 in
set_option maxRecDepth 100000 in
theorem k99_add (l : Launch) (hl9 : l.stackTraces = false) (dC : Nat → ClassId) (dI : Nat → Nat → Nat) (z : XZ) (h0 h1 h2 : Nat) (o0 o1 : Nat) (sz : Nat) (kc0 : ClassId) : Met l yJx4a65c_add_72be8 (.code yJx4a65c_add_72be8 cJx4a65c_add_72be8 4 none :: wsL_law) ({ frames := 0, cells := 0, slots := 0, locals := 0 }) (va_Pc [.ref h0, .ref h1, .ref h2, .int 1] (PC (dC, dI) [(h0, .inr (0, [.int 5, .ref h2, .int 1])), (h1, .inr (3, [.int 1, .ref (z.2.1 0), .ref o0, .null, .int 0, .int 0, .int 120, .int 120, .int 0, .int 0, .int 0, .int 120, .int 120, .int 0, .int 0, .int 0, .ref h1, .int 1, .int 0])), (h2, .inl (kc0, 10, .inr (.inr (.inr (.inr (va_up (fun _ => none) 0 (some o1)))))))] [(kc0, .object "java/lang/Object")] sz z)) (va_Qv (fun (_ : Unit) => True) (fun (_ : Unit) (t : State) => PG (dC, dI) [(h0, .inr (0, [.int 5, .ref h2, .int 2])), (h1, .inr (3, [.int 1, .ref (z.2.1 0), .ref o0, .null, .int 0, .int 0, .int 120, .int 120, .int 0, .int 0, .int 0, .int 120, .int 120, .int 0, .int 0, .int 0, .ref h1, .int 1, .int 0])), (h2, .inl (kc0, 10, .inr (.inr (.inr (.inr (va_up (va_up (fun _ => none) 0 (some o1)) 1 (some h1)))))))] [(kc0, .object "java/lang/Object")] (va_A [(h0, .inr (0, [.int 5, .ref h2, .int 1])), (h1, .inr (3, [.int 1, .ref (z.2.1 0), .ref o0, .null, .int 0, .int 0, .int 120, .int 120, .int 0, .int 0, .int 0, .int 120, .int 120, .int 0, .int 0, .int 0, .ref h1, .int 1, .int 0])), (h2, .inl (kc0, 10, .inr (.inr (.inr (.inr (va_up (fun _ => none) 0 (some o1)))))))] sz) sz 0 t) (va_A [(h0, .inr (0, [.int 5, .ref h2, .int 1])), (h1, .inr (3, [.int 1, .ref (z.2.1 0), .ref o0, .null, .int 0, .int 0, .int 120, .int 120, .int 0, .int 0, .int 0, .int 120, .int 120, .int 0, .int 0, .int 0, .ref h1, .int 1, .int 0])), (h2, .inl (kc0, 10, .inr (.inr (.inr (.inr (va_up (fun _ => none) 0 (some o1)))))))] sz)) 0 0 (va_A [(h0, .inr (0, [.int 5, .ref h2, .int 1])), (h1, .inr (3, [.int 1, .ref (z.2.1 0), .ref o0, .null, .int 0, .int 0, .int 120, .int 120, .int 0, .int 0, .int 0, .int 120, .int 120, .int 0, .int 0, .int 0, .ref h1, .int 1, .int 0])), (h2, .inl (kc0, 10, .inr (.inr (.inr (.inr (va_up (fun _ => none) 0 (some o1)))))))] sz) := by
  refine Met.ofW (cc := cJx4a65c_add_72be8) (maxL := 4) (ret := none) (by decide) rfl ?_
  intro p e s m args below meth c s₁ B hml hv
  obtain ⟨rfl, hsz, hP, hK, hD0, hX, hT⟩ := hv
  have hx := B.exec
  have hb := B.bytes
  have hr := B.returns
  have hts0 := atoms_spec (ws := .code yJx4a65c_add_72be8 cJx4a65c_add_72be8 4 none :: wsL_law) B.pre
  have hts := xTail hts0
  have hown : s.vm.findClass RJx4a65c = some m.cls := findClass_of_methodNamed B.named
  have hlocks := B.notSynchronized
  subst hsz
  have hD := hD0.self (sz := s.heap.size)
  generalize hAe : va_A [(h0, .inr (0, [.int 5, .ref h2, .int 1])), (h1, .inr (3, [.int 1, .ref (z.2.1 0), .ref o0, .null, .int 0, .int 0, .int 120, .int 120, .int 0, .int 0, .int 0, .int 120, .int 120, .int 0, .int 0, .int 0, .ref h1, .int 1, .int 0])), (h2, .inl (kc0, 10, .inr (.inr (.inr (.inr (va_up (fun _ => none) 0 (some o1)))))))] s.heap.size = A at hD hX ⊢
  have hA : ∀ q : Nat, s.heap.size ≤ q → A q := fun q h => by rw [← hAe]; exact Or.inr h
  have hS : va_S A s.heap s.heap [] := va_S.rf
  have hG : s.heap.size + 0 ≤ s.heap.size := Nat.le_refl _
  have hl := lv_entry ([.ref h0, .ref h1, .ref h2, .int 1]) (n := 4) (Nat.le_of_ble_eq_true rfl)
  rw [lg_entry_eq]
  generalize (lg_sl ([.ref h0, .ref h1, .ref h2, .int 1]) ++ List.replicate (4 - (lg_sl ([.ref h0, .ref h1, .ref h2, .int 1])).length) Slot.unset).toArray = ls at hl ⊢
  have hl : lv_has ls 4 [(0, .ref h0), (1, .ref h1), (2, .ref h2), (3, .int 1)] := hl
  refine lv_iload_n hx hb dJx4a65c_add_72be8_0 rfl (lv_at hl 3 rfl) ?_
  refine lv_aload_n hx hb dJx4a65c_add_72be8_1 rfl (lv_at hl 2 rfl) ?_
  refine va_alen hx hb hK hP 2 0 rfl rfl (v := 10) rfl dJx4a65c_add_72be8_2 ?_
  refine lv_icmp_ne (tgt := 11) hx hb dJx4a65c_add_72be8_3 (by decide) (fun _ => ?_) (fun cz => absurd cz (by decide))
  refine lv_aload_n hx hb dJx4a65c_add_72be8_11 rfl (lv_at hl 2 rfl) ?_
  refine lv_iload_n hx hb dJx4a65c_add_72be8_12 rfl (lv_at hl 3 rfl) ?_
  refine lv_aload_n hx hb dJx4a65c_add_72be8_13 rfl (lv_at hl 1 rfl) ?_
  refine vb_astq (E := "java/lang/Object") (C := RX2) hx hb hK hP hD (va_Sre hS) 2 0 rfl rfl (va_recv hK hP (ci := 3) (q0 := 1) rfl rfl) (vb_asgC (hT.2.1.1 (RX2, "java/lang/Object") (by decide))) (i := 1) (by unfold vp_in; decide) dJx4a65c_add_72be8_14 (fun H1 _ hP hD hS' => ?_)
  have hG : s.heap.size + 0 ≤ H1.size := Nat.le_trans hG hS'.1
  have hS := va_Str hS hS'
  have hP : va_P (dC, dI) xCl [(h0, .inr (0, [.int 5, .ref h2, .int 1])), (h1, .inr (3, [.int 1, .ref (z.2.1 0), .ref o0, .null, .int 0, .int 0, .int 120, .int 120, .int 0, .int 0, .int 0, .int 120, .int 120, .int 0, .int 0, .int 0, .ref h1, .int 1, .int 0])), (h2, .inl (kc0, 10, .inr (.inr (.inr (.inr (va_up (va_up (fun _ => none) 0 (some o1)) 1 (some h1)))))))] H1 := hP
  have hD : va_D A [(h0, .inr (0, [.int 5, .ref h2, .int 1])), (h1, .inr (3, [.int 1, .ref (z.2.1 0), .ref o0, .null, .int 0, .int 0, .int 120, .int 120, .int 0, .int 0, .int 0, .int 120, .int 120, .int 0, .int 0, .int 0, .ref h1, .int 1, .int 0])), (h2, .inl (kc0, 10, .inr (.inr (.inr (.inr (va_up (va_up (fun _ => none) 0 (some o1)) 1 (some h1)))))))] := hD
  refine lv_aload_n hx hb dJx4a65c_add_72be8_15 rfl (lv_at hl 0 rfl) ?_
  refine lv_iload_n hx hb dJx4a65c_add_72be8_16 rfl (lv_at hl 3 rfl) ?_
  refine lv_iconst (v := 1) hx hb dJx4a65c_add_72be8_17 (by decide) ?_
  refine lv_iadd hx hb dJx4a65c_add_72be8_18 ?_
  refine lv_topi (fun y2 ey2 => ?_)
  obtain rfl : y2 = 2 := ey2.trans (by decide)
  refine va_put (D := (dC, dI)) (ci := 0) (v := .int 2) (ty := .int) (C := RJx4a65c) (T := TJx4a65c) (N := 3) hx hb hts in_Jx4a65c tyJx4a65c tyJx4a65c_ok nmJx4a65c hown hK hP hD (va_Sre hS) 0 rfl rfl 2 (by decide) (hts _ q_74) (fun _ h9 => h9) rfl (by decide +kernel) rfl rfl (Nat.le_of_ble_eq_true rfl) dJx4a65c_add_72be8_19 (fun H3 _ hP hD hS' => ?_)
  have hG : s.heap.size + 0 ≤ H3.size := Nat.le_trans hG hS'.1
  have hS := va_Str hS hS'
  have hP : va_P (dC, dI) xCl [(h0, .inr (0, [.int 5, .ref h2, .int 2])), (h1, .inr (3, [.int 1, .ref (z.2.1 0), .ref o0, .null, .int 0, .int 0, .int 120, .int 120, .int 0, .int 0, .int 0, .int 120, .int 120, .int 0, .int 0, .int 0, .ref h1, .int 1, .int 0])), (h2, .inl (kc0, 10, .inr (.inr (.inr (.inr (va_up (va_up (fun _ => none) 0 (some o1)) 1 (some h1)))))))] H3 := hP
  have hD : va_D A [(h0, .inr (0, [.int 5, .ref h2, .int 2])), (h1, .inr (3, [.int 1, .ref (z.2.1 0), .ref o0, .null, .int 0, .int 0, .int 120, .int 120, .int 0, .int 0, .int 0, .int 120, .int 120, .int 0, .int 0, .int 0, .ref h1, .int 1, .int 0])), (h2, .inl (kc0, 10, .inr (.inr (.inr (.inr (va_up (va_up (fun _ => none) 0 (some o1)) 1 (some h1)))))))] := hD
  exact W.vret hx hb hr (fun t9 ht9 hW9 => ⟨⟨(), rfl, trivial, ⟨pq_mk (wc := [(h0, .inr (0, [.int 5, .ref h2, .int 2])), (h1, .inr (3, [.int 1, .ref (z.2.1 0), .ref o0, .null, .int 0, .int 0, .int 120, .int 120, .int 0, .int 0, .int 0, .int 120, .int 120, .int 0, .int 0, .int 0, .ref h1, .int 1, .int 0])), (h2, .inl (kc0, 10, .inr (.inr (.inr (.inr (va_up (va_up (fun _ => none) 0 (some o1)) 1 (some h1)))))))]) (tc := [(kc0, .object "java/lang/Object")]) hP hD hK [0, 1, 2] [0] rfl rfl rfl rfl ht9 hW9, by rw [ht9]; exact Nat.le_trans (Nat.add_le_add_left (Nat.le_of_ble_eq_true rfl) _) hG⟩⟩, hS.F ht9⟩) hS.2.2 dJx4a65c_add_72be8_22
