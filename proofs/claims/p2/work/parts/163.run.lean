set_option maxHeartbeats 4000000 in
set_option maxRecDepth 100000 in
theorem k632_showsIt (l : Launch) (hl9 : l.stackTraces = false) (dC : Nat → ClassId) (dI : Nat → Nat → Nat) (z : XZ) (h0 h1 h2 h3 h4 h5 h6 h7 h8 h9 h10 : Nat) (o0 : Nat) (sz : Nat) (kc0 kc1 : ClassId) : Met l yX9_showsIt (.code yX9_showsIt cX9_showsIt 8 (some .boolean) :: wsL_law) ({ frames := 4, cells := 21, slots := 228, locals := 94 }) (va_Pc [.ref h0, .int 0, .int 48, .int 0] (PC (dC, dI) [(h0, .inr (8, [.int 0, .ref h1, .ref h2, .ref o0, .ref h3, .int 0])), (h1, .inr (0, [.int 5, .ref h4, .int 5])), (h2, .inr (0, [.int 0, .ref z.1, .int 0])), (h3, .inr (0, [.int 20, .ref h5, .int 5])), (h4, .inl (kc0, 10, .inr (.inr (.inr (.inr (va_up (va_up (va_up (va_up (va_up (fun _ => none) 0 (some h6)) 1 (some h7)) 2 (some h8)) 3 (some h9)) 4 (some h10))))))), (h5, .inl (kc1, 10, .inr (.inr (.inr (.inr (va_up (va_up (va_up (va_up (va_up (fun _ => none) 0 (some (z.2.2.1 128))) 1 (some (z.2.2.1 129))) 2 (some (z.2.2.1 130))) 3 (some (z.2.2.1 131))) 4 (some (z.2.2.1 132)))))))), (h6, .inr (7, [.int 105, .int 120, .int 0, .int (-1), .int 0, .int (-1)])), (h7, .inr (7, [.int 105, .int 120, .int 0, .int (-1), .int 0, .int (-1)])), (h8, .inr (7, [.int 105, .int 120, .int 0, .int (-1), .int 0, .int (-1)])), (h9, .inr (7, [.int 105, .int 120, .int 0, .int (-1), .int 0, .int (-1)])), (h10, .inr (7, [.int 105, .int 120, .int 0, .int (-1), .int 0, .int (-1)]))] [(kc0, .object "java/lang/Object"), (kc1, .object "java/lang/Object")] sz z)) (va_Qi (fun (r : Int32) (_ : Unit) => r = 0) (fun (_ : Unit) (t : State) => PG (dC, dI) [(h0, .inr (8, [.int 0, .ref h1, .ref h2, .ref o0, .ref h3, .int 0])), (h1, .inr (0, [.int 5, .ref h4, .int 5])), (h2, .inr (0, [.int 0, .ref z.1, .int 0])), (h3, .inr (0, [.int 20, .ref h5, .int 5])), (h4, .inl (kc0, 10, .inr (.inr (.inr (.inr (va_up (va_up (va_up (va_up (va_up (fun _ => none) 0 (some h6)) 1 (some h7)) 2 (some h8)) 3 (some h9)) 4 (some h10))))))), (h5, .inl (kc1, 10, .inr (.inr (.inr (.inr (va_up (va_up (va_up (va_up (va_up (fun _ => none) 0 (some (z.2.2.1 128))) 1 (some (z.2.2.1 129))) 2 (some (z.2.2.1 130))) 3 (some (z.2.2.1 131))) 4 (some (z.2.2.1 132)))))))), (h6, .inr (7, [.int 105, .int 120, .int 0, .int (-1), .int 0, .int (-1)])), (h7, .inr (7, [.int 105, .int 120, .int 0, .int (-1), .int 0, .int (-1)])), (h8, .inr (7, [.int 105, .int 120, .int 0, .int (-1), .int 0, .int (-1)])), (h9, .inr (7, [.int 105, .int 120, .int 0, .int (-1), .int 0, .int (-1)])), (h10, .inr (7, [.int 105, .int 120, .int 0, .int (-1), .int 0, .int (-1)]))] [(kc0, .object "java/lang/Object"), (kc1, .object "java/lang/Object")] (va_A [(h0, .inr (8, [.int 0, .ref h1, .ref h2, .ref o0, .ref h3, .int 0])), (h1, .inr (0, [.int 5, .ref h4, .int 5])), (h2, .inr (0, [.int 0, .ref z.1, .int 0])), (h3, .inr (0, [.int 20, .ref h5, .int 5])), (h4, .inl (kc0, 10, .inr (.inr (.inr (.inr (va_up (va_up (va_up (va_up (va_up (fun _ => none) 0 (some h6)) 1 (some h7)) 2 (some h8)) 3 (some h9)) 4 (some h10))))))), (h5, .inl (kc1, 10, .inr (.inr (.inr (.inr (va_up (va_up (va_up (va_up (va_up (fun _ => none) 0 (some (z.2.2.1 128))) 1 (some (z.2.2.1 129))) 2 (some (z.2.2.1 130))) 3 (some (z.2.2.1 131))) 4 (some (z.2.2.1 132)))))))), (h6, .inr (7, [.int 105, .int 120, .int 0, .int (-1), .int 0, .int (-1)])), (h7, .inr (7, [.int 105, .int 120, .int 0, .int (-1), .int 0, .int (-1)])), (h8, .inr (7, [.int 105, .int 120, .int 0, .int (-1), .int 0, .int (-1)])), (h9, .inr (7, [.int 105, .int 120, .int 0, .int (-1), .int 0, .int (-1)])), (h10, .inr (7, [.int 105, .int 120, .int 0, .int (-1), .int 0, .int (-1)]))] sz) sz 21 t) (va_A [(h0, .inr (8, [.int 0, .ref h1, .ref h2, .ref o0, .ref h3, .int 0])), (h1, .inr (0, [.int 5, .ref h4, .int 5])), (h2, .inr (0, [.int 0, .ref z.1, .int 0])), (h3, .inr (0, [.int 20, .ref h5, .int 5])), (h4, .inl (kc0, 10, .inr (.inr (.inr (.inr (va_up (va_up (va_up (va_up (va_up (fun _ => none) 0 (some h6)) 1 (some h7)) 2 (some h8)) 3 (some h9)) 4 (some h10))))))), (h5, .inl (kc1, 10, .inr (.inr (.inr (.inr (va_up (va_up (va_up (va_up (va_up (fun _ => none) 0 (some (z.2.2.1 128))) 1 (some (z.2.2.1 129))) 2 (some (z.2.2.1 130))) 3 (some (z.2.2.1 131))) 4 (some (z.2.2.1 132)))))))), (h6, .inr (7, [.int 105, .int 120, .int 0, .int (-1), .int 0, .int (-1)])), (h7, .inr (7, [.int 105, .int 120, .int 0, .int (-1), .int 0, .int (-1)])), (h8, .inr (7, [.int 105, .int 120, .int 0, .int (-1), .int 0, .int (-1)])), (h9, .inr (7, [.int 105, .int 120, .int 0, .int (-1), .int 0, .int (-1)])), (h10, .inr (7, [.int 105, .int 120, .int 0, .int (-1), .int 0, .int (-1)]))] sz)) 21 228 (va_A [(h0, .inr (8, [.int 0, .ref h1, .ref h2, .ref o0, .ref h3, .int 0])), (h1, .inr (0, [.int 5, .ref h4, .int 5])), (h2, .inr (0, [.int 0, .ref z.1, .int 0])), (h3, .inr (0, [.int 20, .ref h5, .int 5])), (h4, .inl (kc0, 10, .inr (.inr (.inr (.inr (va_up (va_up (va_up (va_up (va_up (fun _ => none) 0 (some h6)) 1 (some h7)) 2 (some h8)) 3 (some h9)) 4 (some h10))))))), (h5, .inl (kc1, 10, .inr (.inr (.inr (.inr (va_up (va_up (va_up (va_up (va_up (fun _ => none) 0 (some (z.2.2.1 128))) 1 (some (z.2.2.1 129))) 2 (some (z.2.2.1 130))) 3 (some (z.2.2.1 131))) 4 (some (z.2.2.1 132)))))))), (h6, .inr (7, [.int 105, .int 120, .int 0, .int (-1), .int 0, .int (-1)])), (h7, .inr (7, [.int 105, .int 120, .int 0, .int (-1), .int 0, .int (-1)])), (h8, .inr (7, [.int 105, .int 120, .int 0, .int (-1), .int 0, .int (-1)])), (h9, .inr (7, [.int 105, .int 120, .int 0, .int (-1), .int 0, .int (-1)])), (h10, .inr (7, [.int 105, .int 120, .int 0, .int (-1), .int 0, .int (-1)]))] sz) := by
  refine Met.ofW (cc := cX9_showsIt) (maxL := 8) (ret := (some .boolean)) (by decide) rfl ?_
  intro p e s m args below meth c s₁ B hml hv
  obtain ⟨rfl, hsz, hP, hK, hD0, hX, hT⟩ := hv
  have hx := B.exec
  have hb := B.bytes
  have hr := B.returns
  have hts0 := atoms_spec (ws := .code yX9_showsIt cX9_showsIt 8 (some .boolean) :: wsL_law) B.pre
  have hts := xTail hts0
  have hown : s.vm.findClass RX9 = some m.cls := findClass_of_methodNamed B.named
  have hlocks := B.notSynchronized
  subst hsz
  have hD := hD0.self (sz := s.heap.size)
  generalize hAe : va_A [(h0, .inr (8, [.int 0, .ref h1, .ref h2, .ref o0, .ref h3, .int 0])), (h1, .inr (0, [.int 5, .ref h4, .int 5])), (h2, .inr (0, [.int 0, .ref z.1, .int 0])), (h3, .inr (0, [.int 20, .ref h5, .int 5])), (h4, .inl (kc0, 10, .inr (.inr (.inr (.inr (va_up (va_up (va_up (va_up (va_up (fun _ => none) 0 (some h6)) 1 (some h7)) 2 (some h8)) 3 (some h9)) 4 (some h10))))))), (h5, .inl (kc1, 10, .inr (.inr (.inr (.inr (va_up (va_up (va_up (va_up (va_up (fun _ => none) 0 (some (z.2.2.1 128))) 1 (some (z.2.2.1 129))) 2 (some (z.2.2.1 130))) 3 (some (z.2.2.1 131))) 4 (some (z.2.2.1 132)))))))), (h6, .inr (7, [.int 105, .int 120, .int 0, .int (-1), .int 0, .int (-1)])), (h7, .inr (7, [.int 105, .int 120, .int 0, .int (-1), .int 0, .int (-1)])), (h8, .inr (7, [.int 105, .int 120, .int 0, .int (-1), .int 0, .int (-1)])), (h9, .inr (7, [.int 105, .int 120, .int 0, .int (-1), .int 0, .int (-1)])), (h10, .inr (7, [.int 105, .int 120, .int 0, .int (-1), .int 0, .int (-1)]))] s.heap.size = A at hD hX ⊢
  have hA : ∀ q : Nat, s.heap.size ≤ q → A q := fun q h => by rw [← hAe]; exact Or.inr h
  have hS : va_S A s.heap s.heap [] := va_S.rf
  have hG : s.heap.size + 0 ≤ s.heap.size := Nat.le_refl _
  have hl := lv_entry ([.ref h0, .int 0, .int 48, .int 0]) (n := 8) (Nat.le_of_ble_eq_true rfl)
  rw [lg_entry_eq]
  generalize (lg_sl ([.ref h0, .int 0, .int 48, .int 0]) ++ List.replicate (8 - (lg_sl ([.ref h0, .int 0, .int 48, .int 0])).length) Slot.unset).toArray = ls at hl ⊢
  have hl : lv_has ls 8 [(0, .ref h0), (1, .int 0), (2, .int 48), (3, .int 0)] := hl
  refine lv_aload_n hx hb dX9_showsIt_0 rfl (lv_at hl 0 rfl) ?_
  refine lv_aload_n hx hb dX9_showsIt_1 rfl (lv_at hl 0 rfl) ?_
  refine lv_iload_n hx hb dX9_showsIt_2 rfl (lv_at hl 3 rfl) ?_
  have hF1 := va_free (wc := [(h0, .inr (8, [.int 0, .ref h1, .ref h2, .ref o0, .ref h3, .int 0])), (h1, .inr (0, [.int 5, .ref h4, .int 5])), (h4, .inl (kc0, 10, .inr (.inr (.inr (.inr (va_up (va_up (va_up (va_up (va_up (fun _ => none) 0 (some h6)) 1 (some h7)) 2 (some h8)) 3 (some h9)) 4 (some h10))))))), (h6, .inr (7, [.int 105, .int 120, .int 0, .int (-1), .int 0, .int (-1)])), (h7, .inr (7, [.int 105, .int 120, .int 0, .int (-1), .int 0, .int (-1)])), (h8, .inr (7, [.int 105, .int 120, .int 0, .int (-1), .int 0, .int (-1)])), (h9, .inr (7, [.int 105, .int 120, .int 0, .int (-1), .int 0, .int (-1)])), (h10, .inr (7, [.int 105, .int 120, .int 0, .int (-1), .int 0, .int (-1)]))]) hD hS hA [0, 1, 4, 6, 7, 8, 9, 10] rfl
  refine va_callr (va_runV (As := [.int 0]) (rest := [.ref h0]) ⟨hx, hb, hml, hown, hts⟩ (k624_valuesOf l hl9 dC dI z h0 h1 h4 h6 h7 h8 h9 h10 h2 o0 h3 s.heap.size kc0) (cwV 1 hts (gV q_423 q_424 q_425 q_60 q_422) rfl rfl rfl (by decide +kernel) ⟨Nat.le_of_ble_eq_true rfl, Nat.le_of_ble_eq_true rfl⟩) ⟨pc_blind, va_recv hK hP (ci := 8) (q0 := 0) rfl rfl, fun U hU hW => ⟨rfl, pc_mk hP hD hK hS hX hT [0, 1, 4, 6, 7, 8, 9, 10] [0] rfl rfl rfl rfl hF1 hU hW⟩⟩ rfl rfl hl.1 rfl (lv_room (Nat.le_of_ble_eq_true rfl)) dX9_showsIt_3 ⟨(Nat.le_of_ble_eq_true rfl), (Nat.le_of_ble_eq_true rfl)⟩) hS (fun q9 _ h9 => hF1 q9 h9) hF1 (fun u3 r4 t3 H3 L3 ht3 hvm3 hw3 hB3 hz3 hk3 hS => ?_)
  obtain ⟨a5, k6, hr3, hB3⟩ := hB3
  obtain ⟨hP, hD, hK⟩ := pq_join (wr := [(h2, .inr (0, [.int 0, .ref z.1, .int 0])), (h3, .inr (0, [.int 20, .ref h5, .int 5])), (h5, .inl (kc1, 10, .inr (.inr (.inr (.inr (va_up (va_up (va_up (va_up (va_up (fun _ => none) 0 (some (z.2.2.1 128))) 1 (some (z.2.2.1 129))) 2 (some (z.2.2.1 130))) 3 (some (z.2.2.1 131))) 4 (some (z.2.2.1 132))))))))]) (tr := [(kc1, .object "java/lang/Object")]) (wz := [(h2, .inr (0, [.int 0, .ref z.1, .int 0])), (h3, .inr (0, [.int 20, .ref h5, .int 5])), (h5, .inl (kc1, 10, .inr (.inr (.inr (.inr (va_up (va_up (va_up (va_up (va_up (fun _ => none) 0 (some (z.2.2.1 128))) 1 (some (z.2.2.1 129))) 2 (some (z.2.2.1 130))) 3 (some (z.2.2.1 131))) 4 (some (z.2.2.1 132)))))))), (h0, .inr (8, [.int 0, .ref h1, .ref h2, .ref o0, .ref h3, .int 0])), (h1, .inr (0, [.int 5, .ref h4, .int 5])), (h4, .inl (kc0, 10, .inr (.inr (.inr (.inr (va_up (va_up (va_up (va_up (va_up (fun _ => none) 0 (some h6)) 1 (some h7)) 2 (some h8)) 3 (some h9)) 4 (some h10))))))), (h6, .inr (7, [.int 105, .int 120, .int 0, .int (-1), .int 0, .int (-1)])), (h7, .inr (7, [.int 105, .int 120, .int 0, .int (-1), .int 0, .int (-1)])), (h8, .inr (7, [.int 105, .int 120, .int 0, .int (-1), .int 0, .int (-1)])), (h9, .inr (7, [.int 105, .int 120, .int 0, .int (-1), .int 0, .int (-1)])), (h10, .inr (7, [.int 105, .int 120, .int 0, .int (-1), .int 0, .int (-1)])), (a5, .inl (k6, 40, .inl (upd (upd (upd (upd (upd (fun _ => 0) 0 48) 1 48) 2 48) 3 48) 4 48)))]) (tz := [(kc1, .object "java/lang/Object"), (kc0, .object "java/lang/Object"), (k6, .char)]) hP hD hK [0, 1, 4, 6, 7, 8, 9, 10] [2, 3, 5] [1] rfl rfl (by decide) (by decide) rfl hk3 hF1 hB3.1 ht3 hvm3 rfl rfl
  have hG : s.heap.size + 1 ≤ H3.size := va_gr (g := 0) (g1 := 1) hG (by rw [← ht3]; exact hB3.2)
  refine W.eq (g2 := F0 m 6 ls [.ref a5, .ref h0]) (by rw [hr3]) ?_
  refine W.widen (k := 1) (n := 40) (by decide) (by decide) ?_
  refine lv_iload_n hx hb dX9_showsIt_6 rfl (lv_at hl 1 rfl) ?_
  refine lv_iload_n hx hb dX9_showsIt_7 rfl (lv_at hl 2 rfl) ?_
  have hF7 := va_free (wc := [(h0, .inr (8, [.int 0, .ref h1, .ref h2, .ref o0, .ref h3, .int 0])), (a5, .inl (k6, 40, .inl (upd (upd (upd (upd (upd (fun _ => 0) 0 48) 1 48) 2 48) 3 48) 4 48))), (h1, .inr (0, [.int 5, .ref h4, .int 5])), (h2, .inr (0, [.int 0, .ref z.1, .int 0])), (h3, .inr (0, [.int 20, .ref h5, .int 5])), (h4, .inl (kc0, 10, .inr (.inr (.inr (.inr (va_up (va_up (va_up (va_up (va_up (fun _ => none) 0 (some h6)) 1 (some h7)) 2 (some h8)) 3 (some h9)) 4 (some h10))))))), (h5, .inl (kc1, 10, .inr (.inr (.inr (.inr (va_up (va_up (va_up (va_up (va_up (fun _ => none) 0 (some (z.2.2.1 128))) 1 (some (z.2.2.1 129))) 2 (some (z.2.2.1 130))) 3 (some (z.2.2.1 131))) 4 (some (z.2.2.1 132)))))))), (h6, .inr (7, [.int 105, .int 120, .int 0, .int (-1), .int 0, .int (-1)])), (h7, .inr (7, [.int 105, .int 120, .int 0, .int (-1), .int 0, .int (-1)])), (h8, .inr (7, [.int 105, .int 120, .int 0, .int (-1), .int 0, .int (-1)])), (h9, .inr (7, [.int 105, .int 120, .int 0, .int (-1), .int 0, .int (-1)])), (h10, .inr (7, [.int 105, .int 120, .int 0, .int (-1), .int 0, .int (-1)]))]) hD hS hA [3, 11, 4, 0, 1, 5, 2, 6, 7, 8, 9, 10] rfl
  refine va_callr (va_runV (As := [.ref a5, .int 0, .int 48]) (rest := []) ⟨hx, hb, hml, hown, hts⟩ (k625_settledAll l hl9 dC dI z h0 a5 h1 h2 h3 h4 h5 h6 h7 h8 h9 h10 o0 H3.size k6 kc0 kc1) (cwV 3 hts (gV q_328 q_329 q_330 q_60 q_327) rfl rfl rfl (by decide +kernel) ⟨Nat.le_of_ble_eq_true rfl, Nat.le_of_ble_eq_true rfl⟩) ⟨pc_blind, va_recv hK hP (ci := 8) (q0 := 3) rfl rfl, fun U hU hW => ⟨rfl, pc_mk hP hD hK hS hX hT [3, 11, 4, 0, 1, 5, 2, 6, 7, 8, 9, 10] [2, 1, 0] rfl rfl rfl rfl hF7 hU hW⟩⟩ rfl rfl hl.1 rfl (lv_room (Nat.le_of_ble_eq_true rfl)) dX9_showsIt_8 ⟨(Nat.le_of_ble_eq_true rfl), (Nat.le_of_ble_eq_true rfl)⟩) hS (fun q9 _ h9 => hF7 q9 h9) hF7 (fun u9 r10 t9 H9 L9 ht9 hvm9 hw9 hB9 hz9 hk9 hS => ?_)
  obtain ⟨a11, k12, hr9, hB9⟩ := hB9
  obtain ⟨hP, hD, hK⟩ := pq_join (wr := []) (tr := []) (wz := [(h0, .inr (8, [.int 0, .ref h1, .ref h2, .ref o0, .ref h3, .int 0])), (a5, .inl (k6, 40, .inl (upd (upd (upd (upd (upd (fun _ => 0) 0 48) 1 48) 2 48) 3 48) 4 48))), (h1, .inr (0, [.int 5, .ref h4, .int 5])), (h2, .inr (0, [.int 0, .ref z.1, .int 0])), (h3, .inr (0, [.int 20, .ref h5, .int 5])), (h4, .inl (kc0, 10, .inr (.inr (.inr (.inr (va_up (va_up (va_up (va_up (va_up (fun _ => none) 0 (some h6)) 1 (some h7)) 2 (some h8)) 3 (some h9)) 4 (some h10))))))), (h5, .inl (kc1, 10, .inr (.inr (.inr (.inr (va_up (va_up (va_up (va_up (va_up (fun _ => none) 0 (some (z.2.2.1 128))) 1 (some (z.2.2.1 129))) 2 (some (z.2.2.1 130))) 3 (some (z.2.2.1 131))) 4 (some (z.2.2.1 132)))))))), (h6, .inr (7, [.int 105, .int 120, .int 0, .int (-1), .int 0, .int (-1)])), (h7, .inr (7, [.int 105, .int 120, .int 0, .int (-1), .int 0, .int (-1)])), (h8, .inr (7, [.int 105, .int 120, .int 0, .int (-1), .int 0, .int (-1)])), (h9, .inr (7, [.int 105, .int 120, .int 0, .int (-1), .int 0, .int (-1)])), (h10, .inr (7, [.int 105, .int 120, .int 0, .int (-1), .int 0, .int (-1)])), (a11, .inl (k12, 40, .inl (upd (upd (upd (upd (upd (fun _ => 0) 0 48) 1 48) 2 48) 3 48) 4 48)))]) (tz := [(k6, .char), (kc0, .object "java/lang/Object"), (kc1, .object "java/lang/Object"), (k12, .char)]) hP hD hK [3, 11, 4, 0, 1, 5, 2, 6, 7, 8, 9, 10] [] [] rfl rfl (by decide) (by decide) rfl hk9 hF7 hB9.1 ht9 hvm9 rfl rfl
  have hG : s.heap.size + 8 ≤ H9.size := va_gr (g := 1) (g1 := 7) hG (by rw [← ht9]; exact hB9.2)
  refine W.eq (g2 := F0 m 11 ls [.ref a11]) (by rw [hr9]) ?_
  refine W.widen (k := 8) (n := 104) (by decide) (by decide) ?_
  refine lv_astore (lv' := [(4, .ref a11), (0, .ref h0), (1, .int 0), (2, .int 48), (3, .int 0)]) hx hb dX9_showsIt_11 hl (by decide) rfl (fun ls hl => ?_)
  refine lv_aload_n hx hb dX9_showsIt_13 rfl (lv_at hl 1 rfl) ?_
  refine lv_aload_n hx hb dX9_showsIt_14 rfl (lv_at hl 1 rfl) ?_
  refine lv_iload_n hx hb dX9_showsIt_15 rfl (lv_at hl 4 rfl) ?_
  have hF13 := va_free (wc := [(h0, .inr (8, [.int 0, .ref h1, .ref h2, .ref o0, .ref h3, .int 0])), (h1, .inr (0, [.int 5, .ref h4, .int 5])), (h4, .inl (kc0, 10, .inr (.inr (.inr (.inr (va_up (va_up (va_up (va_up (va_up (fun _ => none) 0 (some h6)) 1 (some h7)) 2 (some h8)) 3 (some h9)) 4 (some h10))))))), (h6, .inr (7, [.int 105, .int 120, .int 0, .int (-1), .int 0, .int (-1)])), (h7, .inr (7, [.int 105, .int 120, .int 0, .int (-1), .int 0, .int (-1)])), (h8, .inr (7, [.int 105, .int 120, .int 0, .int (-1), .int 0, .int (-1)])), (h9, .inr (7, [.int 105, .int 120, .int 0, .int (-1), .int 0, .int (-1)])), (h10, .inr (7, [.int 105, .int 120, .int 0, .int (-1), .int 0, .int (-1)]))]) hD hS hA [0, 2, 5, 7, 8, 9, 10, 11] rfl
  refine va_callr (va_runV (As := [.int 0]) (rest := [.ref h0]) ⟨hx, hb, hml, hown, hts⟩ (k624_valuesOf l hl9 dC dI z h0 h1 h4 h6 h7 h8 h9 h10 h2 o0 h3 H9.size kc0) (cwV 1 hts (gV q_423 q_424 q_425 q_60 q_422) rfl rfl rfl (by decide +kernel) ⟨Nat.le_of_ble_eq_true rfl, Nat.le_of_ble_eq_true rfl⟩) ⟨pc_blind, va_recv hK hP (ci := 8) (q0 := 0) rfl rfl, fun U hU hW => ⟨rfl, pc_mk hP hD hK hS hX hT [0, 2, 5, 7, 8, 9, 10, 11] [1] rfl rfl rfl rfl hF13 hU hW⟩⟩ rfl rfl hl.1 rfl (lv_room (Nat.le_of_ble_eq_true rfl)) dX9_showsIt_16 ⟨(Nat.le_of_ble_eq_true rfl), (Nat.le_of_ble_eq_true rfl)⟩) hS (fun q9 _ h9 => hF13 q9 h9) hF13 (fun u15 r16 t15 H15 L15 ht15 hvm15 hw15 hB15 hz15 hk15 hS => ?_)
  obtain ⟨a17, k18, hr15, hB15⟩ := hB15
  obtain ⟨hP, hD, hK⟩ := pq_join (wr := [(a5, .inl (k6, 40, .inl (upd (upd (upd (upd (upd (fun _ => 0) 0 48) 1 48) 2 48) 3 48) 4 48))), (h2, .inr (0, [.int 0, .ref z.1, .int 0])), (h3, .inr (0, [.int 20, .ref h5, .int 5])), (h5, .inl (kc1, 10, .inr (.inr (.inr (.inr (va_up (va_up (va_up (va_up (va_up (fun _ => none) 0 (some (z.2.2.1 128))) 1 (some (z.2.2.1 129))) 2 (some (z.2.2.1 130))) 3 (some (z.2.2.1 131))) 4 (some (z.2.2.1 132)))))))), (a11, .inl (k12, 40, .inl (upd (upd (upd (upd (upd (fun _ => 0) 0 48) 1 48) 2 48) 3 48) 4 48)))]) (tr := [(k6, .char), (kc1, .object "java/lang/Object"), (k12, .char)]) (wz := [(a5, .inl (k6, 40, .inl (upd (upd (upd (upd (upd (fun _ => 0) 0 48) 1 48) 2 48) 3 48) 4 48))), (h2, .inr (0, [.int 0, .ref z.1, .int 0])), (h3, .inr (0, [.int 20, .ref h5, .int 5])), (h5, .inl (kc1, 10, .inr (.inr (.inr (.inr (va_up (va_up (va_up (va_up (va_up (fun _ => none) 0 (some (z.2.2.1 128))) 1 (some (z.2.2.1 129))) 2 (some (z.2.2.1 130))) 3 (some (z.2.2.1 131))) 4 (some (z.2.2.1 132)))))))), (a11, .inl (k12, 40, .inl (upd (upd (upd (upd (upd (fun _ => 0) 0 48) 1 48) 2 48) 3 48) 4 48))), (h0, .inr (8, [.int 0, .ref h1, .ref h2, .ref o0, .ref h3, .int 0])), (h1, .inr (0, [.int 5, .ref h4, .int 5])), (h4, .inl (kc0, 10, .inr (.inr (.inr (.inr (va_up (va_up (va_up (va_up (va_up (fun _ => none) 0 (some h6)) 1 (some h7)) 2 (some h8)) 3 (some h9)) 4 (some h10))))))), (h6, .inr (7, [.int 105, .int 120, .int 0, .int (-1), .int 0, .int (-1)])), (h7, .inr (7, [.int 105, .int 120, .int 0, .int (-1), .int 0, .int (-1)])), (h8, .inr (7, [.int 105, .int 120, .int 0, .int (-1), .int 0, .int (-1)])), (h9, .inr (7, [.int 105, .int 120, .int 0, .int (-1), .int 0, .int (-1)])), (h10, .inr (7, [.int 105, .int 120, .int 0, .int (-1), .int 0, .int (-1)])), (a17, .inl (k18, 40, .inl (upd (upd (upd (upd (upd (fun _ => 0) 0 48) 1 48) 2 48) 3 48) 4 48)))]) (tz := [(k6, .char), (kc1, .object "java/lang/Object"), (k12, .char), (kc0, .object "java/lang/Object"), (k18, .char)]) hP hD hK [0, 2, 5, 7, 8, 9, 10, 11] [1, 3, 4, 6, 12] [0, 2, 3] rfl rfl (by decide) (by decide) rfl hk15 hF13 hB15.1 ht15 hvm15 rfl rfl
  have hG : s.heap.size + 9 ≤ H15.size := va_gr (g := 8) (g1 := 1) hG (by rw [← ht15]; exact hB15.2)
  refine W.eq (g2 := F0 m 19 ls [.ref a17, .ref h0]) (by rw [hr15]) ?_
  refine W.widen (k := 9) (n := 144) (by decide) (by decide) ?_
  refine lv_iconst (v := (-1)) hx hb dX9_showsIt_19 (by decide) ?_
  refine lv_bipush (v := 120) hx hb dX9_showsIt_20 (by decide) ?_
  have hF19 := va_free (wc := [(h0, .inr (8, [.int 0, .ref h1, .ref h2, .ref o0, .ref h3, .int 0])), (a17, .inl (k18, 40, .inl (upd (upd (upd (upd (upd (fun _ => 0) 0 48) 1 48) 2 48) 3 48) 4 48))), (h1, .inr (0, [.int 5, .ref h4, .int 5])), (h2, .inr (0, [.int 0, .ref z.1, .int 0])), (h3, .inr (0, [.int 20, .ref h5, .int 5])), (h4, .inl (kc0, 10, .inr (.inr (.inr (.inr (va_up (va_up (va_up (va_up (va_up (fun _ => none) 0 (some h6)) 1 (some h7)) 2 (some h8)) 3 (some h9)) 4 (some h10))))))), (h5, .inl (kc1, 10, .inr (.inr (.inr (.inr (va_up (va_up (va_up (va_up (va_up (fun _ => none) 0 (some (z.2.2.1 128))) 1 (some (z.2.2.1 129))) 2 (some (z.2.2.1 130))) 3 (some (z.2.2.1 131))) 4 (some (z.2.2.1 132)))))))), (h6, .inr (7, [.int 105, .int 120, .int 0, .int (-1), .int 0, .int (-1)])), (h7, .inr (7, [.int 105, .int 120, .int 0, .int (-1), .int 0, .int (-1)])), (h8, .inr (7, [.int 105, .int 120, .int 0, .int (-1), .int 0, .int (-1)])), (h9, .inr (7, [.int 105, .int 120, .int 0, .int (-1), .int 0, .int (-1)])), (h10, .inr (7, [.int 105, .int 120, .int 0, .int (-1), .int 0, .int (-1)]))]) hD hS hA [5, 13, 6, 1, 2, 7, 3, 8, 9, 10, 11, 12] rfl
  refine va_callr (va_runV (As := [.ref a17, .int (-1), .int 120]) (rest := []) ⟨hx, hb, hml, hown, hts⟩ (k626_settledAll l hl9 dC dI z h0 a17 h1 h2 h3 h4 h5 h6 h7 h8 h9 h10 o0 H15.size k18 kc0 kc1) (cwV 3 hts (gV q_328 q_329 q_330 q_60 q_327) rfl rfl rfl (by decide +kernel) ⟨Nat.le_of_ble_eq_true rfl, Nat.le_of_ble_eq_true rfl⟩) ⟨pc_blind, va_recv hK hP (ci := 8) (q0 := 5) rfl rfl, fun U hU hW => ⟨rfl, pc_mk hP hD hK hS hX hT [5, 13, 6, 1, 2, 7, 3, 8, 9, 10, 11, 12] [4, 3, 1] rfl rfl rfl rfl hF19 hU hW⟩⟩ rfl rfl hl.1 rfl (lv_room (Nat.le_of_ble_eq_true rfl)) dX9_showsIt_22 ⟨(Nat.le_of_ble_eq_true rfl), (Nat.le_of_ble_eq_true rfl)⟩) hS (fun q9 _ h9 => hF19 q9 h9) hF19 (fun u21 r22 t21 H21 L21 ht21 hvm21 hw21 hB21 hz21 hk21 hS => ?_)
  obtain ⟨a23, k24, hr21, hB21⟩ := hB21
  obtain ⟨hP, hD, hK⟩ := pq_join (wr := [(a5, .inl (k6, 40, .inl (upd (upd (upd (upd (upd (fun _ => 0) 0 48) 1 48) 2 48) 3 48) 4 48))), (a11, .inl (k12, 40, .inl (upd (upd (upd (upd (upd (fun _ => 0) 0 48) 1 48) 2 48) 3 48) 4 48)))]) (tr := [(k6, .char), (k12, .char)]) (wz := [(a5, .inl (k6, 40, .inl (upd (upd (upd (upd (upd (fun _ => 0) 0 48) 1 48) 2 48) 3 48) 4 48))), (a11, .inl (k12, 40, .inl (upd (upd (upd (upd (upd (fun _ => 0) 0 48) 1 48) 2 48) 3 48) 4 48))), (h0, .inr (8, [.int 0, .ref h1, .ref h2, .ref o0, .ref h3, .int 0])), (a17, .inl (k18, 40, .inl (upd (upd (upd (upd (upd (fun _ => 0) 0 48) 1 48) 2 48) 3 48) 4 48))), (h1, .inr (0, [.int 5, .ref h4, .int 5])), (h2, .inr (0, [.int 0, .ref z.1, .int 0])), (h3, .inr (0, [.int 20, .ref h5, .int 5])), (h4, .inl (kc0, 10, .inr (.inr (.inr (.inr (va_up (va_up (va_up (va_up (va_up (fun _ => none) 0 (some h6)) 1 (some h7)) 2 (some h8)) 3 (some h9)) 4 (some h10))))))), (h5, .inl (kc1, 10, .inr (.inr (.inr (.inr (va_up (va_up (va_up (va_up (va_up (fun _ => none) 0 (some (z.2.2.1 128))) 1 (some (z.2.2.1 129))) 2 (some (z.2.2.1 130))) 3 (some (z.2.2.1 131))) 4 (some (z.2.2.1 132)))))))), (h6, .inr (7, [.int 105, .int 120, .int 0, .int (-1), .int 0, .int (-1)])), (h7, .inr (7, [.int 105, .int 120, .int 0, .int (-1), .int 0, .int (-1)])), (h8, .inr (7, [.int 105, .int 120, .int 0, .int (-1), .int 0, .int (-1)])), (h9, .inr (7, [.int 105, .int 120, .int 0, .int (-1), .int 0, .int (-1)])), (h10, .inr (7, [.int 105, .int 120, .int 0, .int (-1), .int 0, .int (-1)])), (a23, .inl (k24, 40, .inl (upd (upd (upd (upd (upd (fun _ => 0) 0 48) 1 48) 2 48) 3 48) 4 48)))]) (tz := [(k6, .char), (k12, .char), (k18, .char), (kc0, .object "java/lang/Object"), (kc1, .object "java/lang/Object"), (k24, .char)]) hP hD hK [5, 13, 6, 1, 2, 7, 3, 8, 9, 10, 11, 12] [0, 4] [0, 2] rfl rfl (by decide) (by decide) rfl hk21 hF19 hB21.1 ht21 hvm21 rfl rfl
  have hG : s.heap.size + 16 ≤ H21.size := va_gr (g := 9) (g1 := 7) hG (by rw [← ht21]; exact hB21.2)
  refine W.eq (g2 := F0 m 25 ls [.ref a23]) (by rw [hr21]) ?_
  refine W.widen (k := 16) (n := 208) (by decide) (by decide) ?_
  refine lv_astore (lv' := [(5, .ref a23), (4, .ref a11), (0, .ref h0), (1, .int 0), (2, .int 48), (3, .int 0)]) hx hb dX9_showsIt_25 hl (by decide) rfl (fun ls hl => ?_)
  refine lv_iconst (v := 0) hx hb dX9_showsIt_27 (by decide) ?_
  refine lv_istore (lv' := [(6, .int 0), (5, .ref a23), (4, .ref a11), (0, .ref h0), (1, .int 0), (2, .int 48), (3, .int 0)]) hx hb dX9_showsIt_28 hl (by decide) rfl (fun ls hl => ?_)
  refine lv_iconst (v := 0) hx hb dX9_showsIt_30 (by decide) ?_
  refine lv_istore (lv' := [(7, .int 0), (6, .int 0), (5, .ref a23), (4, .ref a11), (0, .ref h0), (1, .int 0), (2, .int 48), (3, .int 0)]) hx hb dX9_showsIt_31 hl (by decide) rfl (fun ls hl => ?_)
  refine lv_iload hx hb dX9_showsIt_33 (lv_at hl 0 rfl) ?_
  refine lv_aload_n hx hb dX9_showsIt_35 rfl (lv_at hl 4 rfl) ?_
  refine va_get (D := (dC, dI)) (ci := 8) (v := .ref h1) (C := RX9) (T := TX9) (N := 6) hx hb hts in_X9 hown hK hP 2 rfl rfl 1 (by decide) (hts _ q_64) (fun _ h9 => h9) rfl dX9_showsIt_36 ?_
  have hF25 := va_free (wc := [(h1, .inr (0, [.int 5, .ref h4, .int 5]))]) hD hS hA [4] rfl
  refine va_calli (va_runV (As := []) (rest := [.int 0]) ⟨hx, hb, hml, hown, hts⟩ (k20_size l hl9 dC dI z h1 h4 H21.size 5 5) (cwV 0 hts (gV q_272 q_77 q_78 q_12 q_75) rfl rfl rfl (by decide +kernel) ⟨Nat.le_of_ble_eq_true rfl, Nat.le_of_ble_eq_true rfl⟩) ⟨pc_blind, va_recv hK hP (ci := 0) (q0 := 4) rfl rfl, fun U hU hW => ⟨rfl, pc_mk hP hD hK hS hX hT [4] [] rfl rfl rfl rfl hF25 hU hW⟩⟩ rfl rfl hl.1 rfl (lv_room (Nat.le_of_ble_eq_true rfl)) dX9_showsIt_39 ⟨(Nat.le_of_ble_eq_true rfl), (Nat.le_of_ble_eq_true rfl)⟩) hS (fun q9 _ h9 => hF25 q9 h9) hF25 (fun r28 u27 t27 H27 L27 ht27 hvm27 hw27 hB27 hz27 hk27 hS => ?_)
  obtain ⟨hP, hD, hK⟩ := pq_join (wr := [(a5, .inl (k6, 40, .inl (upd (upd (upd (upd (upd (fun _ => 0) 0 48) 1 48) 2 48) 3 48) 4 48))), (a11, .inl (k12, 40, .inl (upd (upd (upd (upd (upd (fun _ => 0) 0 48) 1 48) 2 48) 3 48) 4 48))), (h0, .inr (8, [.int 0, .ref h1, .ref h2, .ref o0, .ref h3, .int 0])), (a17, .inl (k18, 40, .inl (upd (upd (upd (upd (upd (fun _ => 0) 0 48) 1 48) 2 48) 3 48) 4 48))), (h2, .inr (0, [.int 0, .ref z.1, .int 0])), (h3, .inr (0, [.int 20, .ref h5, .int 5])), (h4, .inl (kc0, 10, .inr (.inr (.inr (.inr (va_up (va_up (va_up (va_up (va_up (fun _ => none) 0 (some h6)) 1 (some h7)) 2 (some h8)) 3 (some h9)) 4 (some h10))))))), (h5, .inl (kc1, 10, .inr (.inr (.inr (.inr (va_up (va_up (va_up (va_up (va_up (fun _ => none) 0 (some (z.2.2.1 128))) 1 (some (z.2.2.1 129))) 2 (some (z.2.2.1 130))) 3 (some (z.2.2.1 131))) 4 (some (z.2.2.1 132)))))))), (h6, .inr (7, [.int 105, .int 120, .int 0, .int (-1), .int 0, .int (-1)])), (h7, .inr (7, [.int 105, .int 120, .int 0, .int (-1), .int 0, .int (-1)])), (h8, .inr (7, [.int 105, .int 120, .int 0, .int (-1), .int 0, .int (-1)])), (h9, .inr (7, [.int 105, .int 120, .int 0, .int (-1), .int 0, .int (-1)])), (h10, .inr (7, [.int 105, .int 120, .int 0, .int (-1), .int 0, .int (-1)])), (a23, .inl (k24, 40, .inl (upd (upd (upd (upd (upd (fun _ => 0) 0 48) 1 48) 2 48) 3 48) 4 48)))]) (tr := [(k6, .char), (k12, .char), (k18, .char), (kc0, .object "java/lang/Object"), (kc1, .object "java/lang/Object"), (k24, .char)]) (wz := [(a5, .inl (k6, 40, .inl (upd (upd (upd (upd (upd (fun _ => 0) 0 48) 1 48) 2 48) 3 48) 4 48))), (a11, .inl (k12, 40, .inl (upd (upd (upd (upd (upd (fun _ => 0) 0 48) 1 48) 2 48) 3 48) 4 48))), (h0, .inr (8, [.int 0, .ref h1, .ref h2, .ref o0, .ref h3, .int 0])), (a17, .inl (k18, 40, .inl (upd (upd (upd (upd (upd (fun _ => 0) 0 48) 1 48) 2 48) 3 48) 4 48))), (h2, .inr (0, [.int 0, .ref z.1, .int 0])), (h3, .inr (0, [.int 20, .ref h5, .int 5])), (h4, .inl (kc0, 10, .inr (.inr (.inr (.inr (va_up (va_up (va_up (va_up (va_up (fun _ => none) 0 (some h6)) 1 (some h7)) 2 (some h8)) 3 (some h9)) 4 (some h10))))))), (h5, .inl (kc1, 10, .inr (.inr (.inr (.inr (va_up (va_up (va_up (va_up (va_up (fun _ => none) 0 (some (z.2.2.1 128))) 1 (some (z.2.2.1 129))) 2 (some (z.2.2.1 130))) 3 (some (z.2.2.1 131))) 4 (some (z.2.2.1 132)))))))), (h6, .inr (7, [.int 105, .int 120, .int 0, .int (-1), .int 0, .int (-1)])), (h7, .inr (7, [.int 105, .int 120, .int 0, .int (-1), .int 0, .int (-1)])), (h8, .inr (7, [.int 105, .int 120, .int 0, .int (-1), .int 0, .int (-1)])), (h9, .inr (7, [.int 105, .int 120, .int 0, .int (-1), .int 0, .int (-1)])), (h10, .inr (7, [.int 105, .int 120, .int 0, .int (-1), .int 0, .int (-1)])), (a23, .inl (k24, 40, .inl (upd (upd (upd (upd (upd (fun _ => 0) 0 48) 1 48) 2 48) 3 48) 4 48))), (h1, .inr (0, [.int 5, .ref h4, .int 5]))]) (tz := [(k6, .char), (k12, .char), (k18, .char), (kc0, .object "java/lang/Object"), (kc1, .object "java/lang/Object"), (k24, .char)]) hP hD hK [4] [0, 1, 2, 3, 5, 6, 7, 8, 9, 10, 11, 12, 13, 14] [0, 1, 2, 3, 4, 5] rfl rfl (by decide) (by decide) rfl hk27 hF25 hB27.1 ht27 hvm27 rfl rfl
  have hG : s.heap.size + 16 ≤ H27.size := Nat.le_trans hG hz27
  refine W.eq (g2 := F0 m 42 ls [.int 5, .int 0]) (by rw [hw27]) ?_
  refine lv_icmp_ge (tgt := 125) hx hb dX9_showsIt_42 (by decide) (fun cz => absurd cz (by decide)) (fun _ => ?_)
  refine lv_iload hx hb dX9_showsIt_45 (lv_at hl 1 rfl) ?_
  refine lv_if_ne (tgt := 125) hx hb dX9_showsIt_47 (by decide) (fun cz => absurd (by decide) cz) (fun _ => ?_)
  refine lv_aload_n hx hb dX9_showsIt_50 rfl (lv_at hl 4 rfl) ?_
  refine lv_iload hx hb dX9_showsIt_51 (lv_at hl 0 rfl) ?_
  have hF29 := va_free (wc := [(h0, .inr (8, [.int 0, .ref h1, .ref h2, .ref o0, .ref h3, .int 0])), (h1, .inr (0, [.int 5, .ref h4, .int 5])), (h4, .inl (kc0, 10, .inr (.inr (.inr (.inr (va_up (va_up (va_up (va_up (va_up (fun _ => none) 0 (some h6)) 1 (some h7)) 2 (some h8)) 3 (some h9)) 4 (some h10))))))), (h6, .inr (7, [.int 105, .int 120, .int 0, .int (-1), .int 0, .int (-1)])), (h7, .inr (7, [.int 105, .int 120, .int 0, .int (-1), .int 0, .int (-1)])), (h8, .inr (7, [.int 105, .int 120, .int 0, .int (-1), .int 0, .int (-1)])), (h9, .inr (7, [.int 105, .int 120, .int 0, .int (-1), .int 0, .int (-1)])), (h10, .inr (7, [.int 105, .int 120, .int 0, .int (-1), .int 0, .int (-1)]))]) hD hS hA [2, 14, 6, 8, 9, 10, 11, 12] rfl
  refine va_calli (va_runV (As := [.int 0]) (rest := []) ⟨hx, hb, hml, hown, hts⟩ (k627_isLooked l hl9 dC dI z h0 h1 h4 h6 h7 h8 h9 h10 h2 o0 h3 H27.size kc0) (cwV 1 hts (gV q_429 q_430 q_431 q_60 q_428) rfl rfl rfl (by decide +kernel) ⟨Nat.le_of_ble_eq_true rfl, Nat.le_of_ble_eq_true rfl⟩) ⟨pc_blind, va_recv hK hP (ci := 8) (q0 := 2) rfl rfl, fun U hU hW => ⟨rfl, pc_mk hP hD hK hS hX hT [2, 14, 6, 8, 9, 10, 11, 12] [3] rfl rfl rfl rfl hF29 hU hW⟩⟩ rfl rfl hl.1 rfl (lv_room (Nat.le_of_ble_eq_true rfl)) dX9_showsIt_53 ⟨(Nat.le_of_ble_eq_true rfl), (Nat.le_of_ble_eq_true rfl)⟩) hS (fun q9 _ h9 => hF29 q9 h9) hF29 (fun r32 u31 t31 H31 L31 ht31 hvm31 hw31 hB31 hz31 hk31 hS => ?_)
  obtain ⟨hP, hD, hK⟩ := pq_join (wr := [(a5, .inl (k6, 40, .inl (upd (upd (upd (upd (upd (fun _ => 0) 0 48) 1 48) 2 48) 3 48) 4 48))), (a11, .inl (k12, 40, .inl (upd (upd (upd (upd (upd (fun _ => 0) 0 48) 1 48) 2 48) 3 48) 4 48))), (a17, .inl (k18, 40, .inl (upd (upd (upd (upd (upd (fun _ => 0) 0 48) 1 48) 2 48) 3 48) 4 48))), (h2, .inr (0, [.int 0, .ref z.1, .int 0])), (h3, .inr (0, [.int 20, .ref h5, .int 5])), (h5, .inl (kc1, 10, .inr (.inr (.inr (.inr (va_up (va_up (va_up (va_up (va_up (fun _ => none) 0 (some (z.2.2.1 128))) 1 (some (z.2.2.1 129))) 2 (some (z.2.2.1 130))) 3 (some (z.2.2.1 131))) 4 (some (z.2.2.1 132)))))))), (a23, .inl (k24, 40, .inl (upd (upd (upd (upd (upd (fun _ => 0) 0 48) 1 48) 2 48) 3 48) 4 48)))]) (tr := [(k6, .char), (k12, .char), (k18, .char), (kc1, .object "java/lang/Object"), (k24, .char)]) (wz := [(a5, .inl (k6, 40, .inl (upd (upd (upd (upd (upd (fun _ => 0) 0 48) 1 48) 2 48) 3 48) 4 48))), (a11, .inl (k12, 40, .inl (upd (upd (upd (upd (upd (fun _ => 0) 0 48) 1 48) 2 48) 3 48) 4 48))), (a17, .inl (k18, 40, .inl (upd (upd (upd (upd (upd (fun _ => 0) 0 48) 1 48) 2 48) 3 48) 4 48))), (h2, .inr (0, [.int 0, .ref z.1, .int 0])), (h3, .inr (0, [.int 20, .ref h5, .int 5])), (h5, .inl (kc1, 10, .inr (.inr (.inr (.inr (va_up (va_up (va_up (va_up (va_up (fun _ => none) 0 (some (z.2.2.1 128))) 1 (some (z.2.2.1 129))) 2 (some (z.2.2.1 130))) 3 (some (z.2.2.1 131))) 4 (some (z.2.2.1 132)))))))), (a23, .inl (k24, 40, .inl (upd (upd (upd (upd (upd (fun _ => 0) 0 48) 1 48) 2 48) 3 48) 4 48))), (h0, .inr (8, [.int 0, .ref h1, .ref h2, .ref o0, .ref h3, .int 0])), (h1, .inr (0, [.int 5, .ref h4, .int 5])), (h4, .inl (kc0, 10, .inr (.inr (.inr (.inr (va_up (va_up (va_up (va_up (va_up (fun _ => none) 0 (some h6)) 1 (some h7)) 2 (some h8)) 3 (some h9)) 4 (some h10))))))), (h6, .inr (7, [.int 105, .int 120, .int 0, .int (-1), .int 0, .int (-1)])), (h7, .inr (7, [.int 105, .int 120, .int 0, .int (-1), .int 0, .int (-1)])), (h8, .inr (7, [.int 105, .int 120, .int 0, .int (-1), .int 0, .int (-1)])), (h9, .inr (7, [.int 105, .int 120, .int 0, .int (-1), .int 0, .int (-1)])), (h10, .inr (7, [.int 105, .int 120, .int 0, .int (-1), .int 0, .int (-1)]))]) (tz := [(k6, .char), (k12, .char), (k18, .char), (kc1, .object "java/lang/Object"), (k24, .char), (kc0, .object "java/lang/Object")]) hP hD hK [2, 14, 6, 8, 9, 10, 11, 12] [0, 1, 3, 4, 5, 7, 13] [0, 1, 2, 4, 5] rfl rfl (by decide) (by decide) rfl hk31 hF29 hB31.1 ht31 hvm31 rfl rfl
  have hG : s.heap.size + 17 ≤ H31.size := va_gr (g := 16) (g1 := 1) hG (by rw [← ht31]; exact hB31.2)
  refine W.eq (g2 := F0 m 56 ls [.int 0]) (by rw [hw31]) ?_
  refine W.widen (k := 17) (n := 212) (by decide) (by decide) ?_
  refine lv_if_eq (tgt := 119) hx hb dX9_showsIt_56 (by decide) (fun _ => ?_) (fun cz => absurd (by decide) cz)
  refine lv_iinc (v := 1) (lv' := [(7, .int 1), (6, .int 0), (5, .ref a23), (4, .ref a11), (0, .ref h0), (1, .int 0), (2, .int 48), (3, .int 0)]) hx hb dX9_showsIt_119 hl (k := 0) rfl (by decide) (by decide) rfl (fun ls hl => ?_)
  refine lv_goto (tgt := 33) hx hb dX9_showsIt_122 (by decide) ?_
  refine lv_iload hx hb dX9_showsIt_33 (lv_at hl 0 rfl) ?_
  refine lv_aload_n hx hb dX9_showsIt_35 rfl (lv_at hl 4 rfl) ?_
  refine va_get (D := (dC, dI)) (ci := 8) (v := .ref h1) (C := RX9) (T := TX9) (N := 6) hx hb hts in_X9 hown hK hP 7 rfl rfl 1 (by decide) (hts _ q_64) (fun _ h9 => h9) rfl dX9_showsIt_36 ?_
  have hF33 := va_free (wc := [(h1, .inr (0, [.int 5, .ref h4, .int 5]))]) hD hS hA [8] rfl
  refine va_calli (va_runV (As := []) (rest := [.int 1]) ⟨hx, hb, hml, hown, hts⟩ (k20_size l hl9 dC dI z h1 h4 H31.size 5 5) (cwV 0 hts (gV q_272 q_77 q_78 q_12 q_75) rfl rfl rfl (by decide +kernel) ⟨Nat.le_of_ble_eq_true rfl, Nat.le_of_ble_eq_true rfl⟩) ⟨pc_blind, va_recv hK hP (ci := 0) (q0 := 8) rfl rfl, fun U hU hW => ⟨rfl, pc_mk hP hD hK hS hX hT [8] [] rfl rfl rfl rfl hF33 hU hW⟩⟩ rfl rfl hl.1 rfl (lv_room (Nat.le_of_ble_eq_true rfl)) dX9_showsIt_39 ⟨(Nat.le_of_ble_eq_true rfl), (Nat.le_of_ble_eq_true rfl)⟩) hS (fun q9 _ h9 => hF33 q9 h9) hF33 (fun r36 u35 t35 H35 L35 ht35 hvm35 hw35 hB35 hz35 hk35 hS => ?_)
  obtain ⟨hP, hD, hK⟩ := pq_join (wr := [(a5, .inl (k6, 40, .inl (upd (upd (upd (upd (upd (fun _ => 0) 0 48) 1 48) 2 48) 3 48) 4 48))), (a11, .inl (k12, 40, .inl (upd (upd (upd (upd (upd (fun _ => 0) 0 48) 1 48) 2 48) 3 48) 4 48))), (a17, .inl (k18, 40, .inl (upd (upd (upd (upd (upd (fun _ => 0) 0 48) 1 48) 2 48) 3 48) 4 48))), (h2, .inr (0, [.int 0, .ref z.1, .int 0])), (h3, .inr (0, [.int 20, .ref h5, .int 5])), (h5, .inl (kc1, 10, .inr (.inr (.inr (.inr (va_up (va_up (va_up (va_up (va_up (fun _ => none) 0 (some (z.2.2.1 128))) 1 (some (z.2.2.1 129))) 2 (some (z.2.2.1 130))) 3 (some (z.2.2.1 131))) 4 (some (z.2.2.1 132)))))))), (a23, .inl (k24, 40, .inl (upd (upd (upd (upd (upd (fun _ => 0) 0 48) 1 48) 2 48) 3 48) 4 48))), (h0, .inr (8, [.int 0, .ref h1, .ref h2, .ref o0, .ref h3, .int 0])), (h4, .inl (kc0, 10, .inr (.inr (.inr (.inr (va_up (va_up (va_up (va_up (va_up (fun _ => none) 0 (some h6)) 1 (some h7)) 2 (some h8)) 3 (some h9)) 4 (some h10))))))), (h6, .inr (7, [.int 105, .int 120, .int 0, .int (-1), .int 0, .int (-1)])), (h7, .inr (7, [.int 105, .int 120, .int 0, .int (-1), .int 0, .int (-1)])), (h8, .inr (7, [.int 105, .int 120, .int 0, .int (-1), .int 0, .int (-1)])), (h9, .inr (7, [.int 105, .int 120, .int 0, .int (-1), .int 0, .int (-1)])), (h10, .inr (7, [.int 105, .int 120, .int 0, .int (-1), .int 0, .int (-1)]))]) (tr := [(k6, .char), (k12, .char), (k18, .char), (kc1, .object "java/lang/Object"), (k24, .char), (kc0, .object "java/lang/Object")]) (wz := [(a5, .inl (k6, 40, .inl (upd (upd (upd (upd (upd (fun _ => 0) 0 48) 1 48) 2 48) 3 48) 4 48))), (a11, .inl (k12, 40, .inl (upd (upd (upd (upd (upd (fun _ => 0) 0 48) 1 48) 2 48) 3 48) 4 48))), (a17, .inl (k18, 40, .inl (upd (upd (upd (upd (upd (fun _ => 0) 0 48) 1 48) 2 48) 3 48) 4 48))), (h2, .inr (0, [.int 0, .ref z.1, .int 0])), (h3, .inr (0, [.int 20, .ref h5, .int 5])), (h5, .inl (kc1, 10, .inr (.inr (.inr (.inr (va_up (va_up (va_up (va_up (va_up (fun _ => none) 0 (some (z.2.2.1 128))) 1 (some (z.2.2.1 129))) 2 (some (z.2.2.1 130))) 3 (some (z.2.2.1 131))) 4 (some (z.2.2.1 132)))))))), (a23, .inl (k24, 40, .inl (upd (upd (upd (upd (upd (fun _ => 0) 0 48) 1 48) 2 48) 3 48) 4 48))), (h0, .inr (8, [.int 0, .ref h1, .ref h2, .ref o0, .ref h3, .int 0])), (h4, .inl (kc0, 10, .inr (.inr (.inr (.inr (va_up (va_up (va_up (va_up (va_up (fun _ => none) 0 (some h6)) 1 (some h7)) 2 (some h8)) 3 (some h9)) 4 (some h10))))))), (h6, .inr (7, [.int 105, .int 120, .int 0, .int (-1), .int 0, .int (-1)])), (h7, .inr (7, [.int 105, .int 120, .int 0, .int (-1), .int 0, .int (-1)])), (h8, .inr (7, [.int 105, .int 120, .int 0, .int (-1), .int 0, .int (-1)])), (h9, .inr (7, [.int 105, .int 120, .int 0, .int (-1), .int 0, .int (-1)])), (h10, .inr (7, [.int 105, .int 120, .int 0, .int (-1), .int 0, .int (-1)])), (h1, .inr (0, [.int 5, .ref h4, .int 5]))]) (tz := [(k6, .char), (k12, .char), (k18, .char), (kc1, .object "java/lang/Object"), (k24, .char), (kc0, .object "java/lang/Object")]) hP hD hK [8] [0, 1, 2, 3, 4, 5, 6, 7, 9, 10, 11, 12, 13, 14] [0, 1, 2, 3, 4, 5] rfl rfl (by decide) (by decide) rfl hk35 hF33 hB35.1 ht35 hvm35 rfl rfl
  have hG : s.heap.size + 17 ≤ H35.size := Nat.le_trans hG hz35
  refine W.eq (g2 := F0 m 42 ls [.int 5, .int 1]) (by rw [hw35]) ?_
  refine lv_icmp_ge (tgt := 125) hx hb dX9_showsIt_42 (by decide) (fun cz => absurd cz (by decide)) (fun _ => ?_)
  refine lv_iload hx hb dX9_showsIt_45 (lv_at hl 1 rfl) ?_
  refine lv_if_ne (tgt := 125) hx hb dX9_showsIt_47 (by decide) (fun cz => absurd (by decide) cz) (fun _ => ?_)
  refine lv_aload_n hx hb dX9_showsIt_50 rfl (lv_at hl 4 rfl) ?_
  refine lv_iload hx hb dX9_showsIt_51 (lv_at hl 0 rfl) ?_
  have hF37 := va_free (wc := [(h0, .inr (8, [.int 0, .ref h1, .ref h2, .ref o0, .ref h3, .int 0])), (h1, .inr (0, [.int 5, .ref h4, .int 5])), (h4, .inl (kc0, 10, .inr (.inr (.inr (.inr (va_up (va_up (va_up (va_up (va_up (fun _ => none) 0 (some h6)) 1 (some h7)) 2 (some h8)) 3 (some h9)) 4 (some h10))))))), (h6, .inr (7, [.int 105, .int 120, .int 0, .int (-1), .int 0, .int (-1)])), (h7, .inr (7, [.int 105, .int 120, .int 0, .int (-1), .int 0, .int (-1)])), (h8, .inr (7, [.int 105, .int 120, .int 0, .int (-1), .int 0, .int (-1)])), (h9, .inr (7, [.int 105, .int 120, .int 0, .int (-1), .int 0, .int (-1)])), (h10, .inr (7, [.int 105, .int 120, .int 0, .int (-1), .int 0, .int (-1)]))]) hD hS hA [7, 14, 8, 9, 10, 11, 12, 13] rfl
  refine va_calli (va_runV (As := [.int 1]) (rest := []) ⟨hx, hb, hml, hown, hts⟩ (k628_isLooked l hl9 dC dI z h0 h1 h4 h6 h7 h8 h9 h10 h2 o0 h3 H35.size kc0) (cwV 1 hts (gV q_429 q_430 q_431 q_60 q_428) rfl rfl rfl (by decide +kernel) ⟨Nat.le_of_ble_eq_true rfl, Nat.le_of_ble_eq_true rfl⟩) ⟨pc_blind, va_recv hK hP (ci := 8) (q0 := 7) rfl rfl, fun U hU hW => ⟨rfl, pc_mk hP hD hK hS hX hT [7, 14, 8, 9, 10, 11, 12, 13] [5] rfl rfl rfl rfl hF37 hU hW⟩⟩ rfl rfl hl.1 rfl (lv_room (Nat.le_of_ble_eq_true rfl)) dX9_showsIt_53 ⟨(Nat.le_of_ble_eq_true rfl), (Nat.le_of_ble_eq_true rfl)⟩) hS (fun q9 _ h9 => hF37 q9 h9) hF37 (fun r40 u39 t39 H39 L39 ht39 hvm39 hw39 hB39 hz39 hk39 hS => ?_)
  obtain ⟨hP, hD, hK⟩ := pq_join (wr := [(a5, .inl (k6, 40, .inl (upd (upd (upd (upd (upd (fun _ => 0) 0 48) 1 48) 2 48) 3 48) 4 48))), (a11, .inl (k12, 40, .inl (upd (upd (upd (upd (upd (fun _ => 0) 0 48) 1 48) 2 48) 3 48) 4 48))), (a17, .inl (k18, 40, .inl (upd (upd (upd (upd (upd (fun _ => 0) 0 48) 1 48) 2 48) 3 48) 4 48))), (h2, .inr (0, [.int 0, .ref z.1, .int 0])), (h3, .inr (0, [.int 20, .ref h5, .int 5])), (h5, .inl (kc1, 10, .inr (.inr (.inr (.inr (va_up (va_up (va_up (va_up (va_up (fun _ => none) 0 (some (z.2.2.1 128))) 1 (some (z.2.2.1 129))) 2 (some (z.2.2.1 130))) 3 (some (z.2.2.1 131))) 4 (some (z.2.2.1 132)))))))), (a23, .inl (k24, 40, .inl (upd (upd (upd (upd (upd (fun _ => 0) 0 48) 1 48) 2 48) 3 48) 4 48)))]) (tr := [(k6, .char), (k12, .char), (k18, .char), (kc1, .object "java/lang/Object"), (k24, .char)]) (wz := [(a5, .inl (k6, 40, .inl (upd (upd (upd (upd (upd (fun _ => 0) 0 48) 1 48) 2 48) 3 48) 4 48))), (a11, .inl (k12, 40, .inl (upd (upd (upd (upd (upd (fun _ => 0) 0 48) 1 48) 2 48) 3 48) 4 48))), (a17, .inl (k18, 40, .inl (upd (upd (upd (upd (upd (fun _ => 0) 0 48) 1 48) 2 48) 3 48) 4 48))), (h2, .inr (0, [.int 0, .ref z.1, .int 0])), (h3, .inr (0, [.int 20, .ref h5, .int 5])), (h5, .inl (kc1, 10, .inr (.inr (.inr (.inr (va_up (va_up (va_up (va_up (va_up (fun _ => none) 0 (some (z.2.2.1 128))) 1 (some (z.2.2.1 129))) 2 (some (z.2.2.1 130))) 3 (some (z.2.2.1 131))) 4 (some (z.2.2.1 132)))))))), (a23, .inl (k24, 40, .inl (upd (upd (upd (upd (upd (fun _ => 0) 0 48) 1 48) 2 48) 3 48) 4 48))), (h0, .inr (8, [.int 0, .ref h1, .ref h2, .ref o0, .ref h3, .int 0])), (h1, .inr (0, [.int 5, .ref h4, .int 5])), (h4, .inl (kc0, 10, .inr (.inr (.inr (.inr (va_up (va_up (va_up (va_up (va_up (fun _ => none) 0 (some h6)) 1 (some h7)) 2 (some h8)) 3 (some h9)) 4 (some h10))))))), (h6, .inr (7, [.int 105, .int 120, .int 0, .int (-1), .int 0, .int (-1)])), (h7, .inr (7, [.int 105, .int 120, .int 0, .int (-1), .int 0, .int (-1)])), (h8, .inr (7, [.int 105, .int 120, .int 0, .int (-1), .int 0, .int (-1)])), (h9, .inr (7, [.int 105, .int 120, .int 0, .int (-1), .int 0, .int (-1)])), (h10, .inr (7, [.int 105, .int 120, .int 0, .int (-1), .int 0, .int (-1)]))]) (tz := [(k6, .char), (k12, .char), (k18, .char), (kc1, .object "java/lang/Object"), (k24, .char), (kc0, .object "java/lang/Object")]) hP hD hK [7, 14, 8, 9, 10, 11, 12, 13] [0, 1, 2, 3, 4, 5, 6] [0, 1, 2, 3, 4] rfl rfl (by decide) (by decide) rfl hk39 hF37 hB39.1 ht39 hvm39 rfl rfl
  have hG : s.heap.size + 18 ≤ H39.size := va_gr (g := 17) (g1 := 1) hG (by rw [← ht39]; exact hB39.2)
  refine W.eq (g2 := F0 m 56 ls [.int 0]) (by rw [hw39]) ?_
  refine W.widen (k := 18) (n := 216) (by decide) (by decide) ?_
  refine lv_if_eq (tgt := 119) hx hb dX9_showsIt_56 (by decide) (fun _ => ?_) (fun cz => absurd (by decide) cz)
  refine lv_iinc (v := 2) (lv' := [(7, .int 2), (6, .int 0), (5, .ref a23), (4, .ref a11), (0, .ref h0), (1, .int 0), (2, .int 48), (3, .int 0)]) hx hb dX9_showsIt_119 hl (k := 0) rfl (by decide) (by decide) rfl (fun ls hl => ?_)
  refine lv_goto (tgt := 33) hx hb dX9_showsIt_122 (by decide) ?_
  refine lv_iload hx hb dX9_showsIt_33 (lv_at hl 0 rfl) ?_
  refine lv_aload_n hx hb dX9_showsIt_35 rfl (lv_at hl 4 rfl) ?_
  refine va_get (D := (dC, dI)) (ci := 8) (v := .ref h1) (C := RX9) (T := TX9) (N := 6) hx hb hts in_X9 hown hK hP 7 rfl rfl 1 (by decide) (hts _ q_64) (fun _ h9 => h9) rfl dX9_showsIt_36 ?_
  have hF41 := va_free (wc := [(h1, .inr (0, [.int 5, .ref h4, .int 5]))]) hD hS hA [8] rfl
  refine va_calli (va_runV (As := []) (rest := [.int 2]) ⟨hx, hb, hml, hown, hts⟩ (k20_size l hl9 dC dI z h1 h4 H39.size 5 5) (cwV 0 hts (gV q_272 q_77 q_78 q_12 q_75) rfl rfl rfl (by decide +kernel) ⟨Nat.le_of_ble_eq_true rfl, Nat.le_of_ble_eq_true rfl⟩) ⟨pc_blind, va_recv hK hP (ci := 0) (q0 := 8) rfl rfl, fun U hU hW => ⟨rfl, pc_mk hP hD hK hS hX hT [8] [] rfl rfl rfl rfl hF41 hU hW⟩⟩ rfl rfl hl.1 rfl (lv_room (Nat.le_of_ble_eq_true rfl)) dX9_showsIt_39 ⟨(Nat.le_of_ble_eq_true rfl), (Nat.le_of_ble_eq_true rfl)⟩) hS (fun q9 _ h9 => hF41 q9 h9) hF41 (fun r44 u43 t43 H43 L43 ht43 hvm43 hw43 hB43 hz43 hk43 hS => ?_)
  obtain ⟨hP, hD, hK⟩ := pq_join (wr := [(a5, .inl (k6, 40, .inl (upd (upd (upd (upd (upd (fun _ => 0) 0 48) 1 48) 2 48) 3 48) 4 48))), (a11, .inl (k12, 40, .inl (upd (upd (upd (upd (upd (fun _ => 0) 0 48) 1 48) 2 48) 3 48) 4 48))), (a17, .inl (k18, 40, .inl (upd (upd (upd (upd (upd (fun _ => 0) 0 48) 1 48) 2 48) 3 48) 4 48))), (h2, .inr (0, [.int 0, .ref z.1, .int 0])), (h3, .inr (0, [.int 20, .ref h5, .int 5])), (h5, .inl (kc1, 10, .inr (.inr (.inr (.inr (va_up (va_up (va_up (va_up (va_up (fun _ => none) 0 (some (z.2.2.1 128))) 1 (some (z.2.2.1 129))) 2 (some (z.2.2.1 130))) 3 (some (z.2.2.1 131))) 4 (some (z.2.2.1 132)))))))), (a23, .inl (k24, 40, .inl (upd (upd (upd (upd (upd (fun _ => 0) 0 48) 1 48) 2 48) 3 48) 4 48))), (h0, .inr (8, [.int 0, .ref h1, .ref h2, .ref o0, .ref h3, .int 0])), (h4, .inl (kc0, 10, .inr (.inr (.inr (.inr (va_up (va_up (va_up (va_up (va_up (fun _ => none) 0 (some h6)) 1 (some h7)) 2 (some h8)) 3 (some h9)) 4 (some h10))))))), (h6, .inr (7, [.int 105, .int 120, .int 0, .int (-1), .int 0, .int (-1)])), (h7, .inr (7, [.int 105, .int 120, .int 0, .int (-1), .int 0, .int (-1)])), (h8, .inr (7, [.int 105, .int 120, .int 0, .int (-1), .int 0, .int (-1)])), (h9, .inr (7, [.int 105, .int 120, .int 0, .int (-1), .int 0, .int (-1)])), (h10, .inr (7, [.int 105, .int 120, .int 0, .int (-1), .int 0, .int (-1)]))]) (tr := [(k6, .char), (k12, .char), (k18, .char), (kc1, .object "java/lang/Object"), (k24, .char), (kc0, .object "java/lang/Object")]) (wz := [(a5, .inl (k6, 40, .inl (upd (upd (upd (upd (upd (fun _ => 0) 0 48) 1 48) 2 48) 3 48) 4 48))), (a11, .inl (k12, 40, .inl (upd (upd (upd (upd (upd (fun _ => 0) 0 48) 1 48) 2 48) 3 48) 4 48))), (a17, .inl (k18, 40, .inl (upd (upd (upd (upd (upd (fun _ => 0) 0 48) 1 48) 2 48) 3 48) 4 48))), (h2, .inr (0, [.int 0, .ref z.1, .int 0])), (h3, .inr (0, [.int 20, .ref h5, .int 5])), (h5, .inl (kc1, 10, .inr (.inr (.inr (.inr (va_up (va_up (va_up (va_up (va_up (fun _ => none) 0 (some (z.2.2.1 128))) 1 (some (z.2.2.1 129))) 2 (some (z.2.2.1 130))) 3 (some (z.2.2.1 131))) 4 (some (z.2.2.1 132)))))))), (a23, .inl (k24, 40, .inl (upd (upd (upd (upd (upd (fun _ => 0) 0 48) 1 48) 2 48) 3 48) 4 48))), (h0, .inr (8, [.int 0, .ref h1, .ref h2, .ref o0, .ref h3, .int 0])), (h4, .inl (kc0, 10, .inr (.inr (.inr (.inr (va_up (va_up (va_up (va_up (va_up (fun _ => none) 0 (some h6)) 1 (some h7)) 2 (some h8)) 3 (some h9)) 4 (some h10))))))), (h6, .inr (7, [.int 105, .int 120, .int 0, .int (-1), .int 0, .int (-1)])), (h7, .inr (7, [.int 105, .int 120, .int 0, .int (-1), .int 0, .int (-1)])), (h8, .inr (7, [.int 105, .int 120, .int 0, .int (-1), .int 0, .int (-1)])), (h9, .inr (7, [.int 105, .int 120, .int 0, .int (-1), .int 0, .int (-1)])), (h10, .inr (7, [.int 105, .int 120, .int 0, .int (-1), .int 0, .int (-1)])), (h1, .inr (0, [.int 5, .ref h4, .int 5]))]) (tz := [(k6, .char), (k12, .char), (k18, .char), (kc1, .object "java/lang/Object"), (k24, .char), (kc0, .object "java/lang/Object")]) hP hD hK [8] [0, 1, 2, 3, 4, 5, 6, 7, 9, 10, 11, 12, 13, 14] [0, 1, 2, 3, 4, 5] rfl rfl (by decide) (by decide) rfl hk43 hF41 hB43.1 ht43 hvm43 rfl rfl
  have hG : s.heap.size + 18 ≤ H43.size := Nat.le_trans hG hz43
  refine W.eq (g2 := F0 m 42 ls [.int 5, .int 2]) (by rw [hw43]) ?_
  refine lv_icmp_ge (tgt := 125) hx hb dX9_showsIt_42 (by decide) (fun cz => absurd cz (by decide)) (fun _ => ?_)
  refine lv_iload hx hb dX9_showsIt_45 (lv_at hl 1 rfl) ?_
  refine lv_if_ne (tgt := 125) hx hb dX9_showsIt_47 (by decide) (fun cz => absurd (by decide) cz) (fun _ => ?_)
  refine lv_aload_n hx hb dX9_showsIt_50 rfl (lv_at hl 4 rfl) ?_
  refine lv_iload hx hb dX9_showsIt_51 (lv_at hl 0 rfl) ?_
  have hF45 := va_free (wc := [(h0, .inr (8, [.int 0, .ref h1, .ref h2, .ref o0, .ref h3, .int 0])), (h1, .inr (0, [.int 5, .ref h4, .int 5])), (h4, .inl (kc0, 10, .inr (.inr (.inr (.inr (va_up (va_up (va_up (va_up (va_up (fun _ => none) 0 (some h6)) 1 (some h7)) 2 (some h8)) 3 (some h9)) 4 (some h10))))))), (h6, .inr (7, [.int 105, .int 120, .int 0, .int (-1), .int 0, .int (-1)])), (h7, .inr (7, [.int 105, .int 120, .int 0, .int (-1), .int 0, .int (-1)])), (h8, .inr (7, [.int 105, .int 120, .int 0, .int (-1), .int 0, .int (-1)])), (h9, .inr (7, [.int 105, .int 120, .int 0, .int (-1), .int 0, .int (-1)])), (h10, .inr (7, [.int 105, .int 120, .int 0, .int (-1), .int 0, .int (-1)]))]) hD hS hA [7, 14, 8, 9, 10, 11, 12, 13] rfl
  refine va_calli (va_runV (As := [.int 2]) (rest := []) ⟨hx, hb, hml, hown, hts⟩ (k629_isLooked l hl9 dC dI z h0 h1 h4 h6 h7 h8 h9 h10 h2 o0 h3 H43.size kc0) (cwV 1 hts (gV q_429 q_430 q_431 q_60 q_428) rfl rfl rfl (by decide +kernel) ⟨Nat.le_of_ble_eq_true rfl, Nat.le_of_ble_eq_true rfl⟩) ⟨pc_blind, va_recv hK hP (ci := 8) (q0 := 7) rfl rfl, fun U hU hW => ⟨rfl, pc_mk hP hD hK hS hX hT [7, 14, 8, 9, 10, 11, 12, 13] [5] rfl rfl rfl rfl hF45 hU hW⟩⟩ rfl rfl hl.1 rfl (lv_room (Nat.le_of_ble_eq_true rfl)) dX9_showsIt_53 ⟨(Nat.le_of_ble_eq_true rfl), (Nat.le_of_ble_eq_true rfl)⟩) hS (fun q9 _ h9 => hF45 q9 h9) hF45 (fun r48 u47 t47 H47 L47 ht47 hvm47 hw47 hB47 hz47 hk47 hS => ?_)
  obtain ⟨hP, hD, hK⟩ := pq_join (wr := [(a5, .inl (k6, 40, .inl (upd (upd (upd (upd (upd (fun _ => 0) 0 48) 1 48) 2 48) 3 48) 4 48))), (a11, .inl (k12, 40, .inl (upd (upd (upd (upd (upd (fun _ => 0) 0 48) 1 48) 2 48) 3 48) 4 48))), (a17, .inl (k18, 40, .inl (upd (upd (upd (upd (upd (fun _ => 0) 0 48) 1 48) 2 48) 3 48) 4 48))), (h2, .inr (0, [.int 0, .ref z.1, .int 0])), (h3, .inr (0, [.int 20, .ref h5, .int 5])), (h5, .inl (kc1, 10, .inr (.inr (.inr (.inr (va_up (va_up (va_up (va_up (va_up (fun _ => none) 0 (some (z.2.2.1 128))) 1 (some (z.2.2.1 129))) 2 (some (z.2.2.1 130))) 3 (some (z.2.2.1 131))) 4 (some (z.2.2.1 132)))))))), (a23, .inl (k24, 40, .inl (upd (upd (upd (upd (upd (fun _ => 0) 0 48) 1 48) 2 48) 3 48) 4 48)))]) (tr := [(k6, .char), (k12, .char), (k18, .char), (kc1, .object "java/lang/Object"), (k24, .char)]) (wz := [(a5, .inl (k6, 40, .inl (upd (upd (upd (upd (upd (fun _ => 0) 0 48) 1 48) 2 48) 3 48) 4 48))), (a11, .inl (k12, 40, .inl (upd (upd (upd (upd (upd (fun _ => 0) 0 48) 1 48) 2 48) 3 48) 4 48))), (a17, .inl (k18, 40, .inl (upd (upd (upd (upd (upd (fun _ => 0) 0 48) 1 48) 2 48) 3 48) 4 48))), (h2, .inr (0, [.int 0, .ref z.1, .int 0])), (h3, .inr (0, [.int 20, .ref h5, .int 5])), (h5, .inl (kc1, 10, .inr (.inr (.inr (.inr (va_up (va_up (va_up (va_up (va_up (fun _ => none) 0 (some (z.2.2.1 128))) 1 (some (z.2.2.1 129))) 2 (some (z.2.2.1 130))) 3 (some (z.2.2.1 131))) 4 (some (z.2.2.1 132)))))))), (a23, .inl (k24, 40, .inl (upd (upd (upd (upd (upd (fun _ => 0) 0 48) 1 48) 2 48) 3 48) 4 48))), (h0, .inr (8, [.int 0, .ref h1, .ref h2, .ref o0, .ref h3, .int 0])), (h1, .inr (0, [.int 5, .ref h4, .int 5])), (h4, .inl (kc0, 10, .inr (.inr (.inr (.inr (va_up (va_up (va_up (va_up (va_up (fun _ => none) 0 (some h6)) 1 (some h7)) 2 (some h8)) 3 (some h9)) 4 (some h10))))))), (h6, .inr (7, [.int 105, .int 120, .int 0, .int (-1), .int 0, .int (-1)])), (h7, .inr (7, [.int 105, .int 120, .int 0, .int (-1), .int 0, .int (-1)])), (h8, .inr (7, [.int 105, .int 120, .int 0, .int (-1), .int 0, .int (-1)])), (h9, .inr (7, [.int 105, .int 120, .int 0, .int (-1), .int 0, .int (-1)])), (h10, .inr (7, [.int 105, .int 120, .int 0, .int (-1), .int 0, .int (-1)]))]) (tz := [(k6, .char), (k12, .char), (k18, .char), (kc1, .object "java/lang/Object"), (k24, .char), (kc0, .object "java/lang/Object")]) hP hD hK [7, 14, 8, 9, 10, 11, 12, 13] [0, 1, 2, 3, 4, 5, 6] [0, 1, 2, 3, 4] rfl rfl (by decide) (by decide) rfl hk47 hF45 hB47.1 ht47 hvm47 rfl rfl
  have hG : s.heap.size + 19 ≤ H47.size := va_gr (g := 18) (g1 := 1) hG (by rw [← ht47]; exact hB47.2)
  refine W.eq (g2 := F0 m 56 ls [.int 0]) (by rw [hw47]) ?_
  refine W.widen (k := 19) (n := 220) (by decide) (by decide) ?_
  refine lv_if_eq (tgt := 119) hx hb dX9_showsIt_56 (by decide) (fun _ => ?_) (fun cz => absurd (by decide) cz)
  refine lv_iinc (v := 3) (lv' := [(7, .int 3), (6, .int 0), (5, .ref a23), (4, .ref a11), (0, .ref h0), (1, .int 0), (2, .int 48), (3, .int 0)]) hx hb dX9_showsIt_119 hl (k := 0) rfl (by decide) (by decide) rfl (fun ls hl => ?_)
  refine lv_goto (tgt := 33) hx hb dX9_showsIt_122 (by decide) ?_
  refine lv_iload hx hb dX9_showsIt_33 (lv_at hl 0 rfl) ?_
  refine lv_aload_n hx hb dX9_showsIt_35 rfl (lv_at hl 4 rfl) ?_
  refine va_get (D := (dC, dI)) (ci := 8) (v := .ref h1) (C := RX9) (T := TX9) (N := 6) hx hb hts in_X9 hown hK hP 7 rfl rfl 1 (by decide) (hts _ q_64) (fun _ h9 => h9) rfl dX9_showsIt_36 ?_
  have hF49 := va_free (wc := [(h1, .inr (0, [.int 5, .ref h4, .int 5]))]) hD hS hA [8] rfl
  refine va_calli (va_runV (As := []) (rest := [.int 3]) ⟨hx, hb, hml, hown, hts⟩ (k20_size l hl9 dC dI z h1 h4 H47.size 5 5) (cwV 0 hts (gV q_272 q_77 q_78 q_12 q_75) rfl rfl rfl (by decide +kernel) ⟨Nat.le_of_ble_eq_true rfl, Nat.le_of_ble_eq_true rfl⟩) ⟨pc_blind, va_recv hK hP (ci := 0) (q0 := 8) rfl rfl, fun U hU hW => ⟨rfl, pc_mk hP hD hK hS hX hT [8] [] rfl rfl rfl rfl hF49 hU hW⟩⟩ rfl rfl hl.1 rfl (lv_room (Nat.le_of_ble_eq_true rfl)) dX9_showsIt_39 ⟨(Nat.le_of_ble_eq_true rfl), (Nat.le_of_ble_eq_true rfl)⟩) hS (fun q9 _ h9 => hF49 q9 h9) hF49 (fun r52 u51 t51 H51 L51 ht51 hvm51 hw51 hB51 hz51 hk51 hS => ?_)
  obtain ⟨hP, hD, hK⟩ := pq_join (wr := [(a5, .inl (k6, 40, .inl (upd (upd (upd (upd (upd (fun _ => 0) 0 48) 1 48) 2 48) 3 48) 4 48))), (a11, .inl (k12, 40, .inl (upd (upd (upd (upd (upd (fun _ => 0) 0 48) 1 48) 2 48) 3 48) 4 48))), (a17, .inl (k18, 40, .inl (upd (upd (upd (upd (upd (fun _ => 0) 0 48) 1 48) 2 48) 3 48) 4 48))), (h2, .inr (0, [.int 0, .ref z.1, .int 0])), (h3, .inr (0, [.int 20, .ref h5, .int 5])), (h5, .inl (kc1, 10, .inr (.inr (.inr (.inr (va_up (va_up (va_up (va_up (va_up (fun _ => none) 0 (some (z.2.2.1 128))) 1 (some (z.2.2.1 129))) 2 (some (z.2.2.1 130))) 3 (some (z.2.2.1 131))) 4 (some (z.2.2.1 132)))))))), (a23, .inl (k24, 40, .inl (upd (upd (upd (upd (upd (fun _ => 0) 0 48) 1 48) 2 48) 3 48) 4 48))), (h0, .inr (8, [.int 0, .ref h1, .ref h2, .ref o0, .ref h3, .int 0])), (h4, .inl (kc0, 10, .inr (.inr (.inr (.inr (va_up (va_up (va_up (va_up (va_up (fun _ => none) 0 (some h6)) 1 (some h7)) 2 (some h8)) 3 (some h9)) 4 (some h10))))))), (h6, .inr (7, [.int 105, .int 120, .int 0, .int (-1), .int 0, .int (-1)])), (h7, .inr (7, [.int 105, .int 120, .int 0, .int (-1), .int 0, .int (-1)])), (h8, .inr (7, [.int 105, .int 120, .int 0, .int (-1), .int 0, .int (-1)])), (h9, .inr (7, [.int 105, .int 120, .int 0, .int (-1), .int 0, .int (-1)])), (h10, .inr (7, [.int 105, .int 120, .int 0, .int (-1), .int 0, .int (-1)]))]) (tr := [(k6, .char), (k12, .char), (k18, .char), (kc1, .object "java/lang/Object"), (k24, .char), (kc0, .object "java/lang/Object")]) (wz := [(a5, .inl (k6, 40, .inl (upd (upd (upd (upd (upd (fun _ => 0) 0 48) 1 48) 2 48) 3 48) 4 48))), (a11, .inl (k12, 40, .inl (upd (upd (upd (upd (upd (fun _ => 0) 0 48) 1 48) 2 48) 3 48) 4 48))), (a17, .inl (k18, 40, .inl (upd (upd (upd (upd (upd (fun _ => 0) 0 48) 1 48) 2 48) 3 48) 4 48))), (h2, .inr (0, [.int 0, .ref z.1, .int 0])), (h3, .inr (0, [.int 20, .ref h5, .int 5])), (h5, .inl (kc1, 10, .inr (.inr (.inr (.inr (va_up (va_up (va_up (va_up (va_up (fun _ => none) 0 (some (z.2.2.1 128))) 1 (some (z.2.2.1 129))) 2 (some (z.2.2.1 130))) 3 (some (z.2.2.1 131))) 4 (some (z.2.2.1 132)))))))), (a23, .inl (k24, 40, .inl (upd (upd (upd (upd (upd (fun _ => 0) 0 48) 1 48) 2 48) 3 48) 4 48))), (h0, .inr (8, [.int 0, .ref h1, .ref h2, .ref o0, .ref h3, .int 0])), (h4, .inl (kc0, 10, .inr (.inr (.inr (.inr (va_up (va_up (va_up (va_up (va_up (fun _ => none) 0 (some h6)) 1 (some h7)) 2 (some h8)) 3 (some h9)) 4 (some h10))))))), (h6, .inr (7, [.int 105, .int 120, .int 0, .int (-1), .int 0, .int (-1)])), (h7, .inr (7, [.int 105, .int 120, .int 0, .int (-1), .int 0, .int (-1)])), (h8, .inr (7, [.int 105, .int 120, .int 0, .int (-1), .int 0, .int (-1)])), (h9, .inr (7, [.int 105, .int 120, .int 0, .int (-1), .int 0, .int (-1)])), (h10, .inr (7, [.int 105, .int 120, .int 0, .int (-1), .int 0, .int (-1)])), (h1, .inr (0, [.int 5, .ref h4, .int 5]))]) (tz := [(k6, .char), (k12, .char), (k18, .char), (kc1, .object "java/lang/Object"), (k24, .char), (kc0, .object "java/lang/Object")]) hP hD hK [8] [0, 1, 2, 3, 4, 5, 6, 7, 9, 10, 11, 12, 13, 14] [0, 1, 2, 3, 4, 5] rfl rfl (by decide) (by decide) rfl hk51 hF49 hB51.1 ht51 hvm51 rfl rfl
  have hG : s.heap.size + 19 ≤ H51.size := Nat.le_trans hG hz51
  refine W.eq (g2 := F0 m 42 ls [.int 5, .int 3]) (by rw [hw51]) ?_
  refine lv_icmp_ge (tgt := 125) hx hb dX9_showsIt_42 (by decide) (fun cz => absurd cz (by decide)) (fun _ => ?_)
  refine lv_iload hx hb dX9_showsIt_45 (lv_at hl 1 rfl) ?_
  refine lv_if_ne (tgt := 125) hx hb dX9_showsIt_47 (by decide) (fun cz => absurd (by decide) cz) (fun _ => ?_)
  refine lv_aload_n hx hb dX9_showsIt_50 rfl (lv_at hl 4 rfl) ?_
  refine lv_iload hx hb dX9_showsIt_51 (lv_at hl 0 rfl) ?_
  have hF53 := va_free (wc := [(h0, .inr (8, [.int 0, .ref h1, .ref h2, .ref o0, .ref h3, .int 0])), (h1, .inr (0, [.int 5, .ref h4, .int 5])), (h4, .inl (kc0, 10, .inr (.inr (.inr (.inr (va_up (va_up (va_up (va_up (va_up (fun _ => none) 0 (some h6)) 1 (some h7)) 2 (some h8)) 3 (some h9)) 4 (some h10))))))), (h6, .inr (7, [.int 105, .int 120, .int 0, .int (-1), .int 0, .int (-1)])), (h7, .inr (7, [.int 105, .int 120, .int 0, .int (-1), .int 0, .int (-1)])), (h8, .inr (7, [.int 105, .int 120, .int 0, .int (-1), .int 0, .int (-1)])), (h9, .inr (7, [.int 105, .int 120, .int 0, .int (-1), .int 0, .int (-1)])), (h10, .inr (7, [.int 105, .int 120, .int 0, .int (-1), .int 0, .int (-1)]))]) hD hS hA [7, 14, 8, 9, 10, 11, 12, 13] rfl
  refine va_calli (va_runV (As := [.int 3]) (rest := []) ⟨hx, hb, hml, hown, hts⟩ (k630_isLooked l hl9 dC dI z h0 h1 h4 h6 h7 h8 h9 h10 h2 o0 h3 H51.size kc0) (cwV 1 hts (gV q_429 q_430 q_431 q_60 q_428) rfl rfl rfl (by decide +kernel) ⟨Nat.le_of_ble_eq_true rfl, Nat.le_of_ble_eq_true rfl⟩) ⟨pc_blind, va_recv hK hP (ci := 8) (q0 := 7) rfl rfl, fun U hU hW => ⟨rfl, pc_mk hP hD hK hS hX hT [7, 14, 8, 9, 10, 11, 12, 13] [5] rfl rfl rfl rfl hF53 hU hW⟩⟩ rfl rfl hl.1 rfl (lv_room (Nat.le_of_ble_eq_true rfl)) dX9_showsIt_53 ⟨(Nat.le_of_ble_eq_true rfl), (Nat.le_of_ble_eq_true rfl)⟩) hS (fun q9 _ h9 => hF53 q9 h9) hF53 (fun r56 u55 t55 H55 L55 ht55 hvm55 hw55 hB55 hz55 hk55 hS => ?_)
  obtain ⟨hP, hD, hK⟩ := pq_join (wr := [(a5, .inl (k6, 40, .inl (upd (upd (upd (upd (upd (fun _ => 0) 0 48) 1 48) 2 48) 3 48) 4 48))), (a11, .inl (k12, 40, .inl (upd (upd (upd (upd (upd (fun _ => 0) 0 48) 1 48) 2 48) 3 48) 4 48))), (a17, .inl (k18, 40, .inl (upd (upd (upd (upd (upd (fun _ => 0) 0 48) 1 48) 2 48) 3 48) 4 48))), (h2, .inr (0, [.int 0, .ref z.1, .int 0])), (h3, .inr (0, [.int 20, .ref h5, .int 5])), (h5, .inl (kc1, 10, .inr (.inr (.inr (.inr (va_up (va_up (va_up (va_up (va_up (fun _ => none) 0 (some (z.2.2.1 128))) 1 (some (z.2.2.1 129))) 2 (some (z.2.2.1 130))) 3 (some (z.2.2.1 131))) 4 (some (z.2.2.1 132)))))))), (a23, .inl (k24, 40, .inl (upd (upd (upd (upd (upd (fun _ => 0) 0 48) 1 48) 2 48) 3 48) 4 48)))]) (tr := [(k6, .char), (k12, .char), (k18, .char), (kc1, .object "java/lang/Object"), (k24, .char)]) (wz := [(a5, .inl (k6, 40, .inl (upd (upd (upd (upd (upd (fun _ => 0) 0 48) 1 48) 2 48) 3 48) 4 48))), (a11, .inl (k12, 40, .inl (upd (upd (upd (upd (upd (fun _ => 0) 0 48) 1 48) 2 48) 3 48) 4 48))), (a17, .inl (k18, 40, .inl (upd (upd (upd (upd (upd (fun _ => 0) 0 48) 1 48) 2 48) 3 48) 4 48))), (h2, .inr (0, [.int 0, .ref z.1, .int 0])), (h3, .inr (0, [.int 20, .ref h5, .int 5])), (h5, .inl (kc1, 10, .inr (.inr (.inr (.inr (va_up (va_up (va_up (va_up (va_up (fun _ => none) 0 (some (z.2.2.1 128))) 1 (some (z.2.2.1 129))) 2 (some (z.2.2.1 130))) 3 (some (z.2.2.1 131))) 4 (some (z.2.2.1 132)))))))), (a23, .inl (k24, 40, .inl (upd (upd (upd (upd (upd (fun _ => 0) 0 48) 1 48) 2 48) 3 48) 4 48))), (h0, .inr (8, [.int 0, .ref h1, .ref h2, .ref o0, .ref h3, .int 0])), (h1, .inr (0, [.int 5, .ref h4, .int 5])), (h4, .inl (kc0, 10, .inr (.inr (.inr (.inr (va_up (va_up (va_up (va_up (va_up (fun _ => none) 0 (some h6)) 1 (some h7)) 2 (some h8)) 3 (some h9)) 4 (some h10))))))), (h6, .inr (7, [.int 105, .int 120, .int 0, .int (-1), .int 0, .int (-1)])), (h7, .inr (7, [.int 105, .int 120, .int 0, .int (-1), .int 0, .int (-1)])), (h8, .inr (7, [.int 105, .int 120, .int 0, .int (-1), .int 0, .int (-1)])), (h9, .inr (7, [.int 105, .int 120, .int 0, .int (-1), .int 0, .int (-1)])), (h10, .inr (7, [.int 105, .int 120, .int 0, .int (-1), .int 0, .int (-1)]))]) (tz := [(k6, .char), (k12, .char), (k18, .char), (kc1, .object "java/lang/Object"), (k24, .char), (kc0, .object "java/lang/Object")]) hP hD hK [7, 14, 8, 9, 10, 11, 12, 13] [0, 1, 2, 3, 4, 5, 6] [0, 1, 2, 3, 4] rfl rfl (by decide) (by decide) rfl hk55 hF53 hB55.1 ht55 hvm55 rfl rfl
  have hG : s.heap.size + 20 ≤ H55.size := va_gr (g := 19) (g1 := 1) hG (by rw [← ht55]; exact hB55.2)
  refine W.eq (g2 := F0 m 56 ls [.int 0]) (by rw [hw55]) ?_
  refine W.widen (k := 20) (n := 224) (by decide) (by decide) ?_
  refine lv_if_eq (tgt := 119) hx hb dX9_showsIt_56 (by decide) (fun _ => ?_) (fun cz => absurd (by decide) cz)
  refine lv_iinc (v := 4) (lv' := [(7, .int 4), (6, .int 0), (5, .ref a23), (4, .ref a11), (0, .ref h0), (1, .int 0), (2, .int 48), (3, .int 0)]) hx hb dX9_showsIt_119 hl (k := 0) rfl (by decide) (by decide) rfl (fun ls hl => ?_)
  refine lv_goto (tgt := 33) hx hb dX9_showsIt_122 (by decide) ?_
  refine lv_iload hx hb dX9_showsIt_33 (lv_at hl 0 rfl) ?_
  refine lv_aload_n hx hb dX9_showsIt_35 rfl (lv_at hl 4 rfl) ?_
  refine va_get (D := (dC, dI)) (ci := 8) (v := .ref h1) (C := RX9) (T := TX9) (N := 6) hx hb hts in_X9 hown hK hP 7 rfl rfl 1 (by decide) (hts _ q_64) (fun _ h9 => h9) rfl dX9_showsIt_36 ?_
  have hF57 := va_free (wc := [(h1, .inr (0, [.int 5, .ref h4, .int 5]))]) hD hS hA [8] rfl
  refine va_calli (va_runV (As := []) (rest := [.int 4]) ⟨hx, hb, hml, hown, hts⟩ (k20_size l hl9 dC dI z h1 h4 H55.size 5 5) (cwV 0 hts (gV q_272 q_77 q_78 q_12 q_75) rfl rfl rfl (by decide +kernel) ⟨Nat.le_of_ble_eq_true rfl, Nat.le_of_ble_eq_true rfl⟩) ⟨pc_blind, va_recv hK hP (ci := 0) (q0 := 8) rfl rfl, fun U hU hW => ⟨rfl, pc_mk hP hD hK hS hX hT [8] [] rfl rfl rfl rfl hF57 hU hW⟩⟩ rfl rfl hl.1 rfl (lv_room (Nat.le_of_ble_eq_true rfl)) dX9_showsIt_39 ⟨(Nat.le_of_ble_eq_true rfl), (Nat.le_of_ble_eq_true rfl)⟩) hS (fun q9 _ h9 => hF57 q9 h9) hF57 (fun r60 u59 t59 H59 L59 ht59 hvm59 hw59 hB59 hz59 hk59 hS => ?_)
  obtain ⟨hP, hD, hK⟩ := pq_join (wr := [(a5, .inl (k6, 40, .inl (upd (upd (upd (upd (upd (fun _ => 0) 0 48) 1 48) 2 48) 3 48) 4 48))), (a11, .inl (k12, 40, .inl (upd (upd (upd (upd (upd (fun _ => 0) 0 48) 1 48) 2 48) 3 48) 4 48))), (a17, .inl (k18, 40, .inl (upd (upd (upd (upd (upd (fun _ => 0) 0 48) 1 48) 2 48) 3 48) 4 48))), (h2, .inr (0, [.int 0, .ref z.1, .int 0])), (h3, .inr (0, [.int 20, .ref h5, .int 5])), (h5, .inl (kc1, 10, .inr (.inr (.inr (.inr (va_up (va_up (va_up (va_up (va_up (fun _ => none) 0 (some (z.2.2.1 128))) 1 (some (z.2.2.1 129))) 2 (some (z.2.2.1 130))) 3 (some (z.2.2.1 131))) 4 (some (z.2.2.1 132)))))))), (a23, .inl (k24, 40, .inl (upd (upd (upd (upd (upd (fun _ => 0) 0 48) 1 48) 2 48) 3 48) 4 48))), (h0, .inr (8, [.int 0, .ref h1, .ref h2, .ref o0, .ref h3, .int 0])), (h4, .inl (kc0, 10, .inr (.inr (.inr (.inr (va_up (va_up (va_up (va_up (va_up (fun _ => none) 0 (some h6)) 1 (some h7)) 2 (some h8)) 3 (some h9)) 4 (some h10))))))), (h6, .inr (7, [.int 105, .int 120, .int 0, .int (-1), .int 0, .int (-1)])), (h7, .inr (7, [.int 105, .int 120, .int 0, .int (-1), .int 0, .int (-1)])), (h8, .inr (7, [.int 105, .int 120, .int 0, .int (-1), .int 0, .int (-1)])), (h9, .inr (7, [.int 105, .int 120, .int 0, .int (-1), .int 0, .int (-1)])), (h10, .inr (7, [.int 105, .int 120, .int 0, .int (-1), .int 0, .int (-1)]))]) (tr := [(k6, .char), (k12, .char), (k18, .char), (kc1, .object "java/lang/Object"), (k24, .char), (kc0, .object "java/lang/Object")]) (wz := [(a5, .inl (k6, 40, .inl (upd (upd (upd (upd (upd (fun _ => 0) 0 48) 1 48) 2 48) 3 48) 4 48))), (a11, .inl (k12, 40, .inl (upd (upd (upd (upd (upd (fun _ => 0) 0 48) 1 48) 2 48) 3 48) 4 48))), (a17, .inl (k18, 40, .inl (upd (upd (upd (upd (upd (fun _ => 0) 0 48) 1 48) 2 48) 3 48) 4 48))), (h2, .inr (0, [.int 0, .ref z.1, .int 0])), (h3, .inr (0, [.int 20, .ref h5, .int 5])), (h5, .inl (kc1, 10, .inr (.inr (.inr (.inr (va_up (va_up (va_up (va_up (va_up (fun _ => none) 0 (some (z.2.2.1 128))) 1 (some (z.2.2.1 129))) 2 (some (z.2.2.1 130))) 3 (some (z.2.2.1 131))) 4 (some (z.2.2.1 132)))))))), (a23, .inl (k24, 40, .inl (upd (upd (upd (upd (upd (fun _ => 0) 0 48) 1 48) 2 48) 3 48) 4 48))), (h0, .inr (8, [.int 0, .ref h1, .ref h2, .ref o0, .ref h3, .int 0])), (h4, .inl (kc0, 10, .inr (.inr (.inr (.inr (va_up (va_up (va_up (va_up (va_up (fun _ => none) 0 (some h6)) 1 (some h7)) 2 (some h8)) 3 (some h9)) 4 (some h10))))))), (h6, .inr (7, [.int 105, .int 120, .int 0, .int (-1), .int 0, .int (-1)])), (h7, .inr (7, [.int 105, .int 120, .int 0, .int (-1), .int 0, .int (-1)])), (h8, .inr (7, [.int 105, .int 120, .int 0, .int (-1), .int 0, .int (-1)])), (h9, .inr (7, [.int 105, .int 120, .int 0, .int (-1), .int 0, .int (-1)])), (h10, .inr (7, [.int 105, .int 120, .int 0, .int (-1), .int 0, .int (-1)])), (h1, .inr (0, [.int 5, .ref h4, .int 5]))]) (tz := [(k6, .char), (k12, .char), (k18, .char), (kc1, .object "java/lang/Object"), (k24, .char), (kc0, .object "java/lang/Object")]) hP hD hK [8] [0, 1, 2, 3, 4, 5, 6, 7, 9, 10, 11, 12, 13, 14] [0, 1, 2, 3, 4, 5] rfl rfl (by decide) (by decide) rfl hk59 hF57 hB59.1 ht59 hvm59 rfl rfl
  have hG : s.heap.size + 20 ≤ H59.size := Nat.le_trans hG hz59
  refine W.eq (g2 := F0 m 42 ls [.int 5, .int 4]) (by rw [hw59]) ?_
  refine lv_icmp_ge (tgt := 125) hx hb dX9_showsIt_42 (by decide) (fun cz => absurd cz (by decide)) (fun _ => ?_)
  refine lv_iload hx hb dX9_showsIt_45 (lv_at hl 1 rfl) ?_
  refine lv_if_ne (tgt := 125) hx hb dX9_showsIt_47 (by decide) (fun cz => absurd (by decide) cz) (fun _ => ?_)
  refine lv_aload_n hx hb dX9_showsIt_50 rfl (lv_at hl 4 rfl) ?_
  refine lv_iload hx hb dX9_showsIt_51 (lv_at hl 0 rfl) ?_
  have hF61 := va_free (wc := [(h0, .inr (8, [.int 0, .ref h1, .ref h2, .ref o0, .ref h3, .int 0])), (h1, .inr (0, [.int 5, .ref h4, .int 5])), (h4, .inl (kc0, 10, .inr (.inr (.inr (.inr (va_up (va_up (va_up (va_up (va_up (fun _ => none) 0 (some h6)) 1 (some h7)) 2 (some h8)) 3 (some h9)) 4 (some h10))))))), (h6, .inr (7, [.int 105, .int 120, .int 0, .int (-1), .int 0, .int (-1)])), (h7, .inr (7, [.int 105, .int 120, .int 0, .int (-1), .int 0, .int (-1)])), (h8, .inr (7, [.int 105, .int 120, .int 0, .int (-1), .int 0, .int (-1)])), (h9, .inr (7, [.int 105, .int 120, .int 0, .int (-1), .int 0, .int (-1)])), (h10, .inr (7, [.int 105, .int 120, .int 0, .int (-1), .int 0, .int (-1)]))]) hD hS hA [7, 14, 8, 9, 10, 11, 12, 13] rfl
  refine va_calli (va_runV (As := [.int 4]) (rest := []) ⟨hx, hb, hml, hown, hts⟩ (k631_isLooked l hl9 dC dI z h0 h1 h4 h6 h7 h8 h9 h10 h2 o0 h3 H59.size kc0) (cwV 1 hts (gV q_429 q_430 q_431 q_60 q_428) rfl rfl rfl (by decide +kernel) ⟨Nat.le_of_ble_eq_true rfl, Nat.le_of_ble_eq_true rfl⟩) ⟨pc_blind, va_recv hK hP (ci := 8) (q0 := 7) rfl rfl, fun U hU hW => ⟨rfl, pc_mk hP hD hK hS hX hT [7, 14, 8, 9, 10, 11, 12, 13] [5] rfl rfl rfl rfl hF61 hU hW⟩⟩ rfl rfl hl.1 rfl (lv_room (Nat.le_of_ble_eq_true rfl)) dX9_showsIt_53 ⟨(Nat.le_of_ble_eq_true rfl), (Nat.le_of_ble_eq_true rfl)⟩) hS (fun q9 _ h9 => hF61 q9 h9) hF61 (fun r64 u63 t63 H63 L63 ht63 hvm63 hw63 hB63 hz63 hk63 hS => ?_)
  obtain ⟨hP, hD, hK⟩ := pq_join (wr := [(a5, .inl (k6, 40, .inl (upd (upd (upd (upd (upd (fun _ => 0) 0 48) 1 48) 2 48) 3 48) 4 48))), (a11, .inl (k12, 40, .inl (upd (upd (upd (upd (upd (fun _ => 0) 0 48) 1 48) 2 48) 3 48) 4 48))), (a17, .inl (k18, 40, .inl (upd (upd (upd (upd (upd (fun _ => 0) 0 48) 1 48) 2 48) 3 48) 4 48))), (h2, .inr (0, [.int 0, .ref z.1, .int 0])), (h3, .inr (0, [.int 20, .ref h5, .int 5])), (h5, .inl (kc1, 10, .inr (.inr (.inr (.inr (va_up (va_up (va_up (va_up (va_up (fun _ => none) 0 (some (z.2.2.1 128))) 1 (some (z.2.2.1 129))) 2 (some (z.2.2.1 130))) 3 (some (z.2.2.1 131))) 4 (some (z.2.2.1 132)))))))), (a23, .inl (k24, 40, .inl (upd (upd (upd (upd (upd (fun _ => 0) 0 48) 1 48) 2 48) 3 48) 4 48)))]) (tr := [(k6, .char), (k12, .char), (k18, .char), (kc1, .object "java/lang/Object"), (k24, .char)]) (wz := [(a5, .inl (k6, 40, .inl (upd (upd (upd (upd (upd (fun _ => 0) 0 48) 1 48) 2 48) 3 48) 4 48))), (a11, .inl (k12, 40, .inl (upd (upd (upd (upd (upd (fun _ => 0) 0 48) 1 48) 2 48) 3 48) 4 48))), (a17, .inl (k18, 40, .inl (upd (upd (upd (upd (upd (fun _ => 0) 0 48) 1 48) 2 48) 3 48) 4 48))), (h2, .inr (0, [.int 0, .ref z.1, .int 0])), (h3, .inr (0, [.int 20, .ref h5, .int 5])), (h5, .inl (kc1, 10, .inr (.inr (.inr (.inr (va_up (va_up (va_up (va_up (va_up (fun _ => none) 0 (some (z.2.2.1 128))) 1 (some (z.2.2.1 129))) 2 (some (z.2.2.1 130))) 3 (some (z.2.2.1 131))) 4 (some (z.2.2.1 132)))))))), (a23, .inl (k24, 40, .inl (upd (upd (upd (upd (upd (fun _ => 0) 0 48) 1 48) 2 48) 3 48) 4 48))), (h0, .inr (8, [.int 0, .ref h1, .ref h2, .ref o0, .ref h3, .int 0])), (h1, .inr (0, [.int 5, .ref h4, .int 5])), (h4, .inl (kc0, 10, .inr (.inr (.inr (.inr (va_up (va_up (va_up (va_up (va_up (fun _ => none) 0 (some h6)) 1 (some h7)) 2 (some h8)) 3 (some h9)) 4 (some h10))))))), (h6, .inr (7, [.int 105, .int 120, .int 0, .int (-1), .int 0, .int (-1)])), (h7, .inr (7, [.int 105, .int 120, .int 0, .int (-1), .int 0, .int (-1)])), (h8, .inr (7, [.int 105, .int 120, .int 0, .int (-1), .int 0, .int (-1)])), (h9, .inr (7, [.int 105, .int 120, .int 0, .int (-1), .int 0, .int (-1)])), (h10, .inr (7, [.int 105, .int 120, .int 0, .int (-1), .int 0, .int (-1)]))]) (tz := [(k6, .char), (k12, .char), (k18, .char), (kc1, .object "java/lang/Object"), (k24, .char), (kc0, .object "java/lang/Object")]) hP hD hK [7, 14, 8, 9, 10, 11, 12, 13] [0, 1, 2, 3, 4, 5, 6] [0, 1, 2, 3, 4] rfl rfl (by decide) (by decide) rfl hk63 hF61 hB63.1 ht63 hvm63 rfl rfl
  have hG : s.heap.size + 21 ≤ H63.size := va_gr (g := 20) (g1 := 1) hG (by rw [← ht63]; exact hB63.2)
  refine W.eq (g2 := F0 m 56 ls [.int 0]) (by rw [hw63]) ?_
  refine W.widen (k := 21) (n := 228) (by decide) (by decide) ?_
  refine lv_if_eq (tgt := 119) hx hb dX9_showsIt_56 (by decide) (fun _ => ?_) (fun cz => absurd (by decide) cz)
  refine lv_iinc (v := 5) (lv' := [(7, .int 5), (6, .int 0), (5, .ref a23), (4, .ref a11), (0, .ref h0), (1, .int 0), (2, .int 48), (3, .int 0)]) hx hb dX9_showsIt_119 hl (k := 0) rfl (by decide) (by decide) rfl (fun ls hl => ?_)
  refine lv_goto (tgt := 33) hx hb dX9_showsIt_122 (by decide) ?_
  refine lv_iload hx hb dX9_showsIt_33 (lv_at hl 0 rfl) ?_
  refine lv_aload_n hx hb dX9_showsIt_35 rfl (lv_at hl 4 rfl) ?_
  refine va_get (D := (dC, dI)) (ci := 8) (v := .ref h1) (C := RX9) (T := TX9) (N := 6) hx hb hts in_X9 hown hK hP 7 rfl rfl 1 (by decide) (hts _ q_64) (fun _ h9 => h9) rfl dX9_showsIt_36 ?_
  have hF65 := va_free (wc := [(h1, .inr (0, [.int 5, .ref h4, .int 5]))]) hD hS hA [8] rfl
  refine va_calli (va_runV (As := []) (rest := [.int 5]) ⟨hx, hb, hml, hown, hts⟩ (k20_size l hl9 dC dI z h1 h4 H63.size 5 5) (cwV 0 hts (gV q_272 q_77 q_78 q_12 q_75) rfl rfl rfl (by decide +kernel) ⟨Nat.le_of_ble_eq_true rfl, Nat.le_of_ble_eq_true rfl⟩) ⟨pc_blind, va_recv hK hP (ci := 0) (q0 := 8) rfl rfl, fun U hU hW => ⟨rfl, pc_mk hP hD hK hS hX hT [8] [] rfl rfl rfl rfl hF65 hU hW⟩⟩ rfl rfl hl.1 rfl (lv_room (Nat.le_of_ble_eq_true rfl)) dX9_showsIt_39 ⟨(Nat.le_of_ble_eq_true rfl), (Nat.le_of_ble_eq_true rfl)⟩) hS (fun q9 _ h9 => hF65 q9 h9) hF65 (fun r68 u67 t67 H67 L67 ht67 hvm67 hw67 hB67 hz67 hk67 hS => ?_)
  obtain ⟨hP, hD, hK⟩ := pq_join (wr := [(a5, .inl (k6, 40, .inl (upd (upd (upd (upd (upd (fun _ => 0) 0 48) 1 48) 2 48) 3 48) 4 48))), (a11, .inl (k12, 40, .inl (upd (upd (upd (upd (upd (fun _ => 0) 0 48) 1 48) 2 48) 3 48) 4 48))), (a17, .inl (k18, 40, .inl (upd (upd (upd (upd (upd (fun _ => 0) 0 48) 1 48) 2 48) 3 48) 4 48))), (h2, .inr (0, [.int 0, .ref z.1, .int 0])), (h3, .inr (0, [.int 20, .ref h5, .int 5])), (h5, .inl (kc1, 10, .inr (.inr (.inr (.inr (va_up (va_up (va_up (va_up (va_up (fun _ => none) 0 (some (z.2.2.1 128))) 1 (some (z.2.2.1 129))) 2 (some (z.2.2.1 130))) 3 (some (z.2.2.1 131))) 4 (some (z.2.2.1 132)))))))), (a23, .inl (k24, 40, .inl (upd (upd (upd (upd (upd (fun _ => 0) 0 48) 1 48) 2 48) 3 48) 4 48))), (h0, .inr (8, [.int 0, .ref h1, .ref h2, .ref o0, .ref h3, .int 0])), (h4, .inl (kc0, 10, .inr (.inr (.inr (.inr (va_up (va_up (va_up (va_up (va_up (fun _ => none) 0 (some h6)) 1 (some h7)) 2 (some h8)) 3 (some h9)) 4 (some h10))))))), (h6, .inr (7, [.int 105, .int 120, .int 0, .int (-1), .int 0, .int (-1)])), (h7, .inr (7, [.int 105, .int 120, .int 0, .int (-1), .int 0, .int (-1)])), (h8, .inr (7, [.int 105, .int 120, .int 0, .int (-1), .int 0, .int (-1)])), (h9, .inr (7, [.int 105, .int 120, .int 0, .int (-1), .int 0, .int (-1)])), (h10, .inr (7, [.int 105, .int 120, .int 0, .int (-1), .int 0, .int (-1)]))]) (tr := [(k6, .char), (k12, .char), (k18, .char), (kc1, .object "java/lang/Object"), (k24, .char), (kc0, .object "java/lang/Object")]) (wz := [(a5, .inl (k6, 40, .inl (upd (upd (upd (upd (upd (fun _ => 0) 0 48) 1 48) 2 48) 3 48) 4 48))), (a11, .inl (k12, 40, .inl (upd (upd (upd (upd (upd (fun _ => 0) 0 48) 1 48) 2 48) 3 48) 4 48))), (a17, .inl (k18, 40, .inl (upd (upd (upd (upd (upd (fun _ => 0) 0 48) 1 48) 2 48) 3 48) 4 48))), (h2, .inr (0, [.int 0, .ref z.1, .int 0])), (h3, .inr (0, [.int 20, .ref h5, .int 5])), (h5, .inl (kc1, 10, .inr (.inr (.inr (.inr (va_up (va_up (va_up (va_up (va_up (fun _ => none) 0 (some (z.2.2.1 128))) 1 (some (z.2.2.1 129))) 2 (some (z.2.2.1 130))) 3 (some (z.2.2.1 131))) 4 (some (z.2.2.1 132)))))))), (a23, .inl (k24, 40, .inl (upd (upd (upd (upd (upd (fun _ => 0) 0 48) 1 48) 2 48) 3 48) 4 48))), (h0, .inr (8, [.int 0, .ref h1, .ref h2, .ref o0, .ref h3, .int 0])), (h4, .inl (kc0, 10, .inr (.inr (.inr (.inr (va_up (va_up (va_up (va_up (va_up (fun _ => none) 0 (some h6)) 1 (some h7)) 2 (some h8)) 3 (some h9)) 4 (some h10))))))), (h6, .inr (7, [.int 105, .int 120, .int 0, .int (-1), .int 0, .int (-1)])), (h7, .inr (7, [.int 105, .int 120, .int 0, .int (-1), .int 0, .int (-1)])), (h8, .inr (7, [.int 105, .int 120, .int 0, .int (-1), .int 0, .int (-1)])), (h9, .inr (7, [.int 105, .int 120, .int 0, .int (-1), .int 0, .int (-1)])), (h10, .inr (7, [.int 105, .int 120, .int 0, .int (-1), .int 0, .int (-1)])), (h1, .inr (0, [.int 5, .ref h4, .int 5]))]) (tz := [(k6, .char), (k12, .char), (k18, .char), (kc1, .object "java/lang/Object"), (k24, .char), (kc0, .object "java/lang/Object")]) hP hD hK [8] [0, 1, 2, 3, 4, 5, 6, 7, 9, 10, 11, 12, 13, 14] [0, 1, 2, 3, 4, 5] rfl rfl (by decide) (by decide) rfl hk67 hF65 hB67.1 ht67 hvm67 rfl rfl
  have hG : s.heap.size + 21 ≤ H67.size := Nat.le_trans hG hz67
  refine W.eq (g2 := F0 m 42 ls [.int 5, .int 5]) (by rw [hw67]) ?_
  refine lv_icmp_ge (tgt := 125) hx hb dX9_showsIt_42 (by decide) (fun _ => ?_) (fun cz => absurd (by decide) cz)
  refine lv_iload hx hb dX9_showsIt_125 (lv_at hl 1 rfl) ?_
  exact W.zret (v := 0) (ty := .boolean) hx hb hr rfl (fun t9 ht9 hW9 => ⟨⟨0, (), rfl, rfl, ⟨pq_mk (wc := [(h0, .inr (8, [.int 0, .ref h1, .ref h2, .ref o0, .ref h3, .int 0])), (h1, .inr (0, [.int 5, .ref h4, .int 5])), (h2, .inr (0, [.int 0, .ref z.1, .int 0])), (h3, .inr (0, [.int 20, .ref h5, .int 5])), (h4, .inl (kc0, 10, .inr (.inr (.inr (.inr (va_up (va_up (va_up (va_up (va_up (fun _ => none) 0 (some h6)) 1 (some h7)) 2 (some h8)) 3 (some h9)) 4 (some h10))))))), (h5, .inl (kc1, 10, .inr (.inr (.inr (.inr (va_up (va_up (va_up (va_up (va_up (fun _ => none) 0 (some (z.2.2.1 128))) 1 (some (z.2.2.1 129))) 2 (some (z.2.2.1 130))) 3 (some (z.2.2.1 131))) 4 (some (z.2.2.1 132)))))))), (h6, .inr (7, [.int 105, .int 120, .int 0, .int (-1), .int 0, .int (-1)])), (h7, .inr (7, [.int 105, .int 120, .int 0, .int (-1), .int 0, .int (-1)])), (h8, .inr (7, [.int 105, .int 120, .int 0, .int (-1), .int 0, .int (-1)])), (h9, .inr (7, [.int 105, .int 120, .int 0, .int (-1), .int 0, .int (-1)])), (h10, .inr (7, [.int 105, .int 120, .int 0, .int (-1), .int 0, .int (-1)]))]) (tc := [(kc0, .object "java/lang/Object"), (kc1, .object "java/lang/Object")]) hP hD hK [7, 14, 3, 4, 8, 5, 9, 10, 11, 12, 13] [5, 3] rfl rfl rfl rfl ht9 hW9, by rw [ht9]; exact Nat.le_trans (Nat.add_le_add_left (Nat.le_of_ble_eq_true rfl) _) hG⟩⟩, hS.F ht9⟩) hS.2.2 dX9_showsIt_127

set_option maxHeartbeats 4000000 in
set_option maxRecDepth 100000 in
theorem k633_hasNext (l : Launch) (hl9 : l.stackTraces = false) (dC : Nat → ClassId) (dI : Nat → Nat → Nat) (z : XZ) (h0 h1 : Nat) (o0 : Nat) (sz : Nat) : Met l yJx35411_hasNext_aae02 (.code yJx35411_hasNext_aae02 cJx35411_hasNext_aae02 1 (some .boolean) :: wsL_law) ({ frames := 0, cells := 0, slots := 0, locals := 0 }) (va_Pc [.ref h0] (PC (dC, dI) [(h0, .inr (1, [.int 1, .int 0, .int 7, .ref h1])), (h1, .inr (0, [.int 7, .ref o0, .int 7]))] [] sz z)) (va_Qi (fun (r : Int32) (_ : Unit) => r = 1) (fun (_ : Unit) (t : State) => PG (dC, dI) [(h0, .inr (1, [.int 1, .int 0, .int 7, .ref h1])), (h1, .inr (0, [.int 7, .ref o0, .int 7]))] [] (va_A [(h0, .inr (1, [.int 1, .int 0, .int 7, .ref h1])), (h1, .inr (0, [.int 7, .ref o0, .int 7]))] sz) sz 0 t) (va_A [(h0, .inr (1, [.int 1, .int 0, .int 7, .ref h1])), (h1, .inr (0, [.int 7, .ref o0, .int 7]))] sz)) 0 0 (va_A [(h0, .inr (1, [.int 1, .int 0, .int 7, .ref h1])), (h1, .inr (0, [.int 7, .ref o0, .int 7]))] sz) := by
  refine Met.ofW (cc := cJx35411_hasNext_aae02) (maxL := 1) (ret := (some .boolean)) (by decide) rfl ?_
  intro p e s m args below meth c s₁ B hml hv
  obtain ⟨rfl, hsz, hP, hK, hD0, hX, hT⟩ := hv
  have hx := B.exec
  have hb := B.bytes
  have hr := B.returns
  have hts0 := atoms_spec (ws := .code yJx35411_hasNext_aae02 cJx35411_hasNext_aae02 1 (some .boolean) :: wsL_law) B.pre
  have hts := xTail hts0
  have hown : s.vm.findClass RJx35411 = some m.cls := findClass_of_methodNamed B.named
  have hlocks := B.notSynchronized
  subst hsz
  have hD := hD0.self (sz := s.heap.size)
  generalize hAe : va_A [(h0, .inr (1, [.int 1, .int 0, .int 7, .ref h1])), (h1, .inr (0, [.int 7, .ref o0, .int 7]))] s.heap.size = A at hD hX ⊢
  have hA : ∀ q : Nat, s.heap.size ≤ q → A q := fun q h => by rw [← hAe]; exact Or.inr h
  have hS : va_S A s.heap s.heap [] := va_S.rf
  have hG : s.heap.size + 0 ≤ s.heap.size := Nat.le_refl _
  have hl := lv_entry ([.ref h0]) (n := 1) (Nat.le_of_ble_eq_true rfl)
  rw [lg_entry_eq]
  generalize (lg_sl ([.ref h0]) ++ List.replicate (1 - (lg_sl ([.ref h0])).length) Slot.unset).toArray = ls at hl ⊢
  have hl : lv_has ls 1 [(0, .ref h0)] := hl
  refine lv_aload_n hx hb dJx35411_hasNext_aae02_0 rfl (lv_at hl 0 rfl) ?_
  refine va_get (D := (dC, dI)) (ci := 1) (v := .int 1) (C := RJx35411) (T := TJx35411) (N := 4) hx hb hts in_Jx35411 hown hK hP 0 rfl rfl 0 (by decide) (hts _ q_259) (fun _ h9 => h9) rfl dJx35411_hasNext_aae02_1 ?_
  refine lv_aload_n hx hb dJx35411_hasNext_aae02_4 rfl (lv_at hl 0 rfl) ?_
  refine va_get (D := (dC, dI)) (ci := 1) (v := .ref h1) (C := RJx35411) (T := TJx35411) (N := 4) hx hb hts in_Jx35411 hown hK hP 0 rfl rfl 3 (by decide) (hts _ q_247) (fun _ h9 => h9) rfl dJx35411_hasNext_aae02_5 ?_
  refine va_getN (D := (dC, dI)) (ci := 0) (v := .int 7) (C := RJx4a65c) (T := TJx4a65c) (N := 3) hx hb hts in_Jx4a65c hown hK hP 1 rfl rfl 2 (by decide) (va_Nw.use rfl hT.2.2.2.2.1) (fun _ h9 => h9) rfl dJx35411_hasNext_aae02_8 ?_
  refine lv_icmp_eq (tgt := 18) hx hb dJx35411_hasNext_aae02_11 (by decide) (fun cz => absurd cz (by decide)) (fun _ => ?_)
  refine lv_iconst (v := 1) hx hb dJx35411_hasNext_aae02_14 (by decide) ?_
  refine lv_goto (tgt := 19) hx hb dJx35411_hasNext_aae02_15 (by decide) ?_
  exact W.zret (v := 1) (ty := .boolean) hx hb hr rfl (fun t9 ht9 hW9 => ⟨⟨1, (), rfl, rfl, ⟨pq_mk (wc := [(h0, .inr (1, [.int 1, .int 0, .int 7, .ref h1])), (h1, .inr (0, [.int 7, .ref o0, .int 7]))]) (tc := []) hP hD hK [0, 1] [] rfl rfl rfl rfl ht9 hW9, by rw [ht9]; exact Nat.le_trans (Nat.add_le_add_left (Nat.le_of_ble_eq_true rfl) _) hG⟩⟩, hS.F ht9⟩) hS.2.2 dJx35411_hasNext_aae02_19

set_option maxHeartbeats 4000000 in
set_option maxRecDepth 100000 in
theorem k634_checkForComodification (l : Launch) (hl9 : l.stackTraces = false) (dC : Nat → ClassId) (dI : Nat → Nat → Nat) (z : XZ) (h0 h1 : Nat) (o0 : Nat) (sz : Nat) : Met l yJx35411_checkForComodification_da8c8 (.code yJx35411_checkForComodification_da8c8 cJx35411_checkForComodification_da8c8 1 none :: wsL_law) ({ frames := 0, cells := 0, slots := 0, locals := 0 }) (va_Pc [.ref h0] (PC (dC, dI) [(h0, .inr (1, [.int 1, .int 0, .int 7, .ref h1])), (h1, .inr (0, [.int 7, .ref o0, .int 7]))] [] sz z)) (va_Qv (fun (_ : Unit) => True) (fun (_ : Unit) (t : State) => PG (dC, dI) [(h0, .inr (1, [.int 1, .int 0, .int 7, .ref h1])), (h1, .inr (0, [.int 7, .ref o0, .int 7]))] [] (va_A [(h0, .inr (1, [.int 1, .int 0, .int 7, .ref h1])), (h1, .inr (0, [.int 7, .ref o0, .int 7]))] sz) sz 0 t) (va_A [(h0, .inr (1, [.int 1, .int 0, .int 7, .ref h1])), (h1, .inr (0, [.int 7, .ref o0, .int 7]))] sz)) 0 0 (va_A [(h0, .inr (1, [.int 1, .int 0, .int 7, .ref h1])), (h1, .inr (0, [.int 7, .ref o0, .int 7]))] sz) := by
  refine Met.ofW (cc := cJx35411_checkForComodification_da8c8) (maxL := 1) (ret := none) (by decide) rfl ?_
  intro p e s m args below meth c s₁ B hml hv
  obtain ⟨rfl, hsz, hP, hK, hD0, hX, hT⟩ := hv
  have hx := B.exec
  have hb := B.bytes
  have hr := B.returns
  have hts0 := atoms_spec (ws := .code yJx35411_checkForComodification_da8c8 cJx35411_checkForComodification_da8c8 1 none :: wsL_law) B.pre
  have hts := xTail hts0
  have hown : s.vm.findClass RJx35411 = some m.cls := findClass_of_methodNamed B.named
  have hlocks := B.notSynchronized
  subst hsz
  have hD := hD0.self (sz := s.heap.size)
  generalize hAe : va_A [(h0, .inr (1, [.int 1, .int 0, .int 7, .ref h1])), (h1, .inr (0, [.int 7, .ref o0, .int 7]))] s.heap.size = A at hD hX ⊢
  have hA : ∀ q : Nat, s.heap.size ≤ q → A q := fun q h => by rw [← hAe]; exact Or.inr h
  have hS : va_S A s.heap s.heap [] := va_S.rf
  have hG : s.heap.size + 0 ≤ s.heap.size := Nat.le_refl _
  have hl := lv_entry ([.ref h0]) (n := 1) (Nat.le_of_ble_eq_true rfl)
  rw [lg_entry_eq]
  generalize (lg_sl ([.ref h0]) ++ List.replicate (1 - (lg_sl ([.ref h0])).length) Slot.unset).toArray = ls at hl ⊢
  have hl : lv_has ls 1 [(0, .ref h0)] := hl
  refine lv_aload_n hx hb dJx35411_checkForComodification_da8c8_0 rfl (lv_at hl 0 rfl) ?_
  refine va_get (D := (dC, dI)) (ci := 1) (v := .ref h1) (C := RJx35411) (T := TJx35411) (N := 4) hx hb hts in_Jx35411 hown hK hP 0 rfl rfl 3 (by decide) (hts _ q_247) (fun _ h9 => h9) rfl dJx35411_checkForComodification_da8c8_1 ?_
  refine va_get (D := (dC, dI)) (ci := 0) (v := .int 7) (C := RJx4a65c) (T := TJx4a65c) (N := 3) hx hb hts in_Jx4a65c hown hK hP 1 rfl rfl 0 (by decide) (hts _ q_250) (u_same (hts _ q_107)) rfl dJx35411_checkForComodification_da8c8_4 ?_
  refine lv_aload_n hx hb dJx35411_checkForComodification_da8c8_7 rfl (lv_at hl 0 rfl) ?_
  refine va_get (D := (dC, dI)) (ci := 1) (v := .int 7) (C := RJx35411) (T := TJx35411) (N := 4) hx hb hts in_Jx35411 hown hK hP 0 rfl rfl 2 (by decide) (hts _ q_251) (fun _ h9 => h9) rfl dJx35411_checkForComodification_da8c8_8 ?_
  refine lv_icmp_eq (tgt := 22) hx hb dJx35411_checkForComodification_da8c8_11 (by decide) (fun _ => ?_) (fun cz => absurd (by decide) cz)
  exact W.vret hx hb hr (fun t9 ht9 hW9 => ⟨⟨(), rfl, trivial, ⟨pq_mk (wc := [(h0, .inr (1, [.int 1, .int 0, .int 7, .ref h1])), (h1, .inr (0, [.int 7, .ref o0, .int 7]))]) (tc := []) hP hD hK [0, 1] [] rfl rfl rfl rfl ht9 hW9, by rw [ht9]; exact Nat.le_trans (Nat.add_le_add_left (Nat.le_of_ble_eq_true rfl) _) hG⟩⟩, hS.F ht9⟩) hS.2.2 dJx35411_checkForComodification_da8c8_22

set_option maxHeartbeats 4000000 in
set_option maxRecDepth 100000 in
theorem k635_next (l : Launch) (hl9 : l.stackTraces = false) (dC : Nat → ClassId) (dI : Nat → Nat → Nat) (z : XZ) (h0 h1 h2 : Nat) (sz : Nat) (kc0 : ClassId) : Met l yJx35411_next_0502b (.code yJx35411_next_0502b cJx35411_next_0502b 3 (some (.object "java/lang/Object")) :: wsL_law) ({ frames := 1, cells := 0, slots := 0, locals := 20 }) (va_Pc [.ref h0] (PC (dC, dI) [(h0, .inr (1, [.int 1, .int 0, .int 7, .ref h1])), (h1, .inr (0, [.int 7, .ref h2, .int 7])), (h2, .inl (kc0, 10, .inr (.inr (.inr (.inr (va_up (va_up (va_up (va_up (va_up (va_up (va_up (fun _ => none) 0 (some (z.2.2.1 128))) 1 (some (z.2.2.1 128))) 2 (some (z.2.2.1 128))) 3 (some (z.2.2.1 128))) 4 (some (z.2.2.1 128))) 5 (some (z.2.2.1 128))) 6 (some (z.2.2.1 128))))))))] [(kc0, .object "java/lang/Object")] sz z)) (va_Qr (fun (_ : Unit) => True) (fun (_ : Unit) (ra : Nat) (t : State) => ra = (z.2.2.1 128) ∧ PG (dC, dI) [(h0, .inr (1, [.int 2, .int 1, .int 7, .ref h1])), (h1, .inr (0, [.int 7, .ref h2, .int 7])), (h2, .inl (kc0, 10, .inr (.inr (.inr (.inr (va_up (va_up (va_up (va_up (va_up (va_up (va_up (fun _ => none) 0 (some (z.2.2.1 128))) 1 (some (z.2.2.1 128))) 2 (some (z.2.2.1 128))) 3 (some (z.2.2.1 128))) 4 (some (z.2.2.1 128))) 5 (some (z.2.2.1 128))) 6 (some (z.2.2.1 128))))))))] [(kc0, .object "java/lang/Object")] (va_A [(h0, .inr (1, [.int 1, .int 0, .int 7, .ref h1])), (h1, .inr (0, [.int 7, .ref h2, .int 7])), (h2, .inl (kc0, 10, .inr (.inr (.inr (.inr (va_up (va_up (va_up (va_up (va_up (va_up (va_up (fun _ => none) 0 (some (z.2.2.1 128))) 1 (some (z.2.2.1 128))) 2 (some (z.2.2.1 128))) 3 (some (z.2.2.1 128))) 4 (some (z.2.2.1 128))) 5 (some (z.2.2.1 128))) 6 (some (z.2.2.1 128))))))))] sz) sz 0 t) (va_A [(h0, .inr (1, [.int 1, .int 0, .int 7, .ref h1])), (h1, .inr (0, [.int 7, .ref h2, .int 7])), (h2, .inl (kc0, 10, .inr (.inr (.inr (.inr (va_up (va_up (va_up (va_up (va_up (va_up (va_up (fun _ => none) 0 (some (z.2.2.1 128))) 1 (some (z.2.2.1 128))) 2 (some (z.2.2.1 128))) 3 (some (z.2.2.1 128))) 4 (some (z.2.2.1 128))) 5 (some (z.2.2.1 128))) 6 (some (z.2.2.1 128))))))))] sz)) 0 0 (va_A [(h0, .inr (1, [.int 1, .int 0, .int 7, .ref h1])), (h1, .inr (0, [.int 7, .ref h2, .int 7])), (h2, .inl (kc0, 10, .inr (.inr (.inr (.inr (va_up (va_up (va_up (va_up (va_up (va_up (va_up (fun _ => none) 0 (some (z.2.2.1 128))) 1 (some (z.2.2.1 128))) 2 (some (z.2.2.1 128))) 3 (some (z.2.2.1 128))) 4 (some (z.2.2.1 128))) 5 (some (z.2.2.1 128))) 6 (some (z.2.2.1 128))))))))] sz) := by
  refine Met.ofW (cc := cJx35411_next_0502b) (maxL := 3) (ret := (some (.object "java/lang/Object"))) (by decide) rfl ?_
  intro p e s m args below meth c s₁ B hml hv
  obtain ⟨rfl, hsz, hP, hK, hD0, hX, hT⟩ := hv
  have hx := B.exec
  have hb := B.bytes
  have hr := B.returns
  have hts0 := atoms_spec (ws := .code yJx35411_next_0502b cJx35411_next_0502b 3 (some (.object "java/lang/Object")) :: wsL_law) B.pre
  have hts := xTail hts0
  have hown : s.vm.findClass RJx35411 = some m.cls := findClass_of_methodNamed B.named
  have hlocks := B.notSynchronized
  subst hsz
  have hD := hD0.self (sz := s.heap.size)
  generalize hAe : va_A [(h0, .inr (1, [.int 1, .int 0, .int 7, .ref h1])), (h1, .inr (0, [.int 7, .ref h2, .int 7])), (h2, .inl (kc0, 10, .inr (.inr (.inr (.inr (va_up (va_up (va_up (va_up (va_up (va_up (va_up (fun _ => none) 0 (some (z.2.2.1 128))) 1 (some (z.2.2.1 128))) 2 (some (z.2.2.1 128))) 3 (some (z.2.2.1 128))) 4 (some (z.2.2.1 128))) 5 (some (z.2.2.1 128))) 6 (some (z.2.2.1 128))))))))] s.heap.size = A at hD hX ⊢
  have hA : ∀ q : Nat, s.heap.size ≤ q → A q := fun q h => by rw [← hAe]; exact Or.inr h
  have hS : va_S A s.heap s.heap [] := va_S.rf
  have hG : s.heap.size + 0 ≤ s.heap.size := Nat.le_refl _
  have hl := lv_entry ([.ref h0]) (n := 3) (Nat.le_of_ble_eq_true rfl)
  rw [lg_entry_eq]
  generalize (lg_sl ([.ref h0]) ++ List.replicate (3 - (lg_sl ([.ref h0])).length) Slot.unset).toArray = ls at hl ⊢
  have hl : lv_has ls 3 [(0, .ref h0)] := hl
  refine lv_aload_n hx hb dJx35411_next_0502b_0 rfl (lv_at hl 0 rfl) ?_
  have hF1 := va_free (wc := [(h0, .inr (1, [.int 1, .int 0, .int 7, .ref h1])), (h1, .inr (0, [.int 7, .ref h2, .int 7]))]) hD hS hA [0, 1] rfl
  refine va_callv (va_runV (As := []) (rest := []) ⟨hx, hb, hml, hown, hts⟩ (k634_checkForComodification l hl9 dC dI z h0 h1 h2 s.heap.size) (cwV 0 hts (gV q_303 q_304 q_305 q_246 q_302) rfl rfl rfl (by decide +kernel) ⟨Nat.le_of_ble_eq_true rfl, Nat.le_of_ble_eq_true rfl⟩) ⟨pc_blind, va_recv hK hP (ci := 1) (q0 := 0) rfl rfl, fun U hU hW => ⟨rfl, pc_mk hP hD hK hS hX hT [0, 1] [] rfl rfl rfl rfl hF1 hU hW⟩⟩ rfl rfl hl.1 rfl (lv_room (Nat.le_of_ble_eq_true rfl)) dJx35411_next_0502b_1 ⟨(Nat.le_of_ble_eq_true rfl), (Nat.le_of_ble_eq_true rfl)⟩) hS (fun q9 _ h9 => hF1 q9 h9) hF1 (fun u3 t3 H3 L3 ht3 hvm3 hw3 hB3 hz3 hk3 hS => ?_)
  obtain ⟨hP, hD, hK⟩ := pq_join (wr := [(h2, .inl (kc0, 10, .inr (.inr (.inr (.inr (va_up (va_up (va_up (va_up (va_up (va_up (va_up (fun _ => none) 0 (some (z.2.2.1 128))) 1 (some (z.2.2.1 128))) 2 (some (z.2.2.1 128))) 3 (some (z.2.2.1 128))) 4 (some (z.2.2.1 128))) 5 (some (z.2.2.1 128))) 6 (some (z.2.2.1 128))))))))]) (tr := [(kc0, .object "java/lang/Object")]) (wz := [(h2, .inl (kc0, 10, .inr (.inr (.inr (.inr (va_up (va_up (va_up (va_up (va_up (va_up (va_up (fun _ => none) 0 (some (z.2.2.1 128))) 1 (some (z.2.2.1 128))) 2 (some (z.2.2.1 128))) 3 (some (z.2.2.1 128))) 4 (some (z.2.2.1 128))) 5 (some (z.2.2.1 128))) 6 (some (z.2.2.1 128)))))))), (h0, .inr (1, [.int 1, .int 0, .int 7, .ref h1])), (h1, .inr (0, [.int 7, .ref h2, .int 7]))]) (tz := [(kc0, .object "java/lang/Object")]) hP hD hK [0, 1] [2] [0] rfl rfl (by decide) (by decide) rfl hk3 hF1 hB3.1 ht3 hvm3 rfl rfl
  have hG : s.heap.size + 0 ≤ H3.size := Nat.le_trans hG hz3
  refine lv_aload_n hx hb dJx35411_next_0502b_4 rfl (lv_at hl 0 rfl) ?_
  refine va_get (D := (dC, dI)) (ci := 1) (v := .int 1) (C := RJx35411) (T := TJx35411) (N := 4) hx hb hts in_Jx35411 hown hK hP 1 rfl rfl 0 (by decide) (hts _ q_259) (fun _ h9 => h9) rfl dJx35411_next_0502b_5 ?_
  refine lv_istore_n (lv' := [(1, .int 1), (0, .ref h0)]) hx hb dJx35411_next_0502b_8 rfl hl (by decide) rfl (fun ls hl => ?_)
  refine lv_iload_n hx hb dJx35411_next_0502b_9 rfl (lv_at hl 0 rfl) ?_
  refine lv_aload_n hx hb dJx35411_next_0502b_10 rfl (lv_at hl 1 rfl) ?_
  refine va_get (D := (dC, dI)) (ci := 1) (v := .ref h1) (C := RJx35411) (T := TJx35411) (N := 4) hx hb hts in_Jx35411 hown hK hP 1 rfl rfl 3 (by decide) (hts _ q_247) (fun _ h9 => h9) rfl dJx35411_next_0502b_11 ?_
  refine va_getN (D := (dC, dI)) (ci := 0) (v := .int 7) (C := RJx4a65c) (T := TJx4a65c) (N := 3) hx hb hts in_Jx4a65c hown hK hP 2 rfl rfl 2 (by decide) (va_Nw.use rfl hT.2.2.2.2.1) (fun _ h9 => h9) rfl dJx35411_next_0502b_14 ?_
  refine lv_icmp_lt (tgt := 28) hx hb dJx35411_next_0502b_17 (by decide) (fun _ => ?_) (fun cz => absurd (by decide) cz)
  refine lv_aload_n hx hb dJx35411_next_0502b_28 rfl (lv_at hl 1 rfl) ?_
  refine va_get (D := (dC, dI)) (ci := 1) (v := .ref h1) (C := RJx35411) (T := TJx35411) (N := 4) hx hb hts in_Jx35411 hown hK hP 1 rfl rfl 3 (by decide) (hts _ q_247) (fun _ h9 => h9) rfl dJx35411_next_0502b_29 ?_
  refine va_get (D := (dC, dI)) (ci := 0) (v := .ref h2) (C := RJx4a65c) (T := TJx4a65c) (N := 3) hx hb hts in_Jx4a65c hown hK hP 2 rfl rfl 1 (by decide) (hts _ q_306) (fun _ h9 => h9) rfl dJx35411_next_0502b_32 ?_
  refine lv_astore_n (lv' := [(2, .ref h2), (1, .int 1), (0, .ref h0)]) hx hb dJx35411_next_0502b_35 rfl hl (by decide) rfl (fun ls hl => ?_)
  refine lv_iload_n hx hb dJx35411_next_0502b_36 rfl (lv_at hl 1 rfl) ?_
  refine lv_aload_n hx hb dJx35411_next_0502b_37 rfl (lv_at hl 0 rfl) ?_
  refine va_alen hx hb hK hP 0 0 rfl rfl (v := 10) rfl dJx35411_next_0502b_38 ?_
  refine lv_icmp_lt (tgt := 50) hx hb dJx35411_next_0502b_39 (by decide) (fun _ => ?_) (fun cz => absurd (by decide) cz)
  refine lv_aload_n hx hb dJx35411_next_0502b_50 rfl (lv_at hl 2 rfl) ?_
  refine lv_iload_n hx hb dJx35411_next_0502b_51 rfl (lv_at hl 1 rfl) ?_
  refine lv_iconst (v := 1) hx hb dJx35411_next_0502b_52 (by decide) ?_
  refine lv_iadd hx hb dJx35411_next_0502b_53 ?_
  refine lv_topi (fun y5 ey5 => ?_)
  obtain rfl : y5 = 2 := ey5.trans (by decide)
  refine va_put (D := (dC, dI)) (ci := 1) (v := .int 2) (ty := .int) (C := RJx35411) (T := TJx35411) (N := 4) hx hb hts in_Jx35411 tyJx35411 tyJx35411_ok nmJx35411 hown hK hP hD (va_Sre hS) 1 rfl rfl 0 (by decide) (hts _ q_259) (fun _ h9 => h9) rfl (by decide +kernel) rfl rfl (Nat.le_of_ble_eq_true rfl) dJx35411_next_0502b_54 (fun H6 _ hP hD hS' => ?_)
  have hG : s.heap.size + 0 ≤ H6.size := Nat.le_trans hG hS'.1
  have hS := va_Str hS hS'
  have hP : va_P (dC, dI) xCl [(h2, .inl (kc0, 10, .inr (.inr (.inr (.inr (va_up (va_up (va_up (va_up (va_up (va_up (va_up (fun _ => none) 0 (some (z.2.2.1 128))) 1 (some (z.2.2.1 128))) 2 (some (z.2.2.1 128))) 3 (some (z.2.2.1 128))) 4 (some (z.2.2.1 128))) 5 (some (z.2.2.1 128))) 6 (some (z.2.2.1 128)))))))), (h0, .inr (1, [.int 2, .int 0, .int 7, .ref h1])), (h1, .inr (0, [.int 7, .ref h2, .int 7]))] H6 := hP
  have hD : va_D A [(h2, .inl (kc0, 10, .inr (.inr (.inr (.inr (va_up (va_up (va_up (va_up (va_up (va_up (va_up (fun _ => none) 0 (some (z.2.2.1 128))) 1 (some (z.2.2.1 128))) 2 (some (z.2.2.1 128))) 3 (some (z.2.2.1 128))) 4 (some (z.2.2.1 128))) 5 (some (z.2.2.1 128))) 6 (some (z.2.2.1 128)))))))), (h0, .inr (1, [.int 2, .int 0, .int 7, .ref h1])), (h1, .inr (0, [.int 7, .ref h2, .int 7]))] := hD
  refine lv_aload_n hx hb dJx35411_next_0502b_57 rfl (lv_at hl 0 rfl) ?_
  refine lv_aload_n hx hb dJx35411_next_0502b_58 rfl (lv_at hl 2 rfl) ?_
  refine lv_iload_n hx hb dJx35411_next_0502b_59 rfl (lv_at hl 1 rfl) ?_
  refine lv_dup_x1 hx hb dJx35411_next_0502b_60 rfl rfl ?_
  refine va_put (D := (dC, dI)) (ci := 1) (v := .int 1) (ty := .int) (C := RJx35411) (T := TJx35411) (N := 4) hx hb hts in_Jx35411 tyJx35411 tyJx35411_ok nmJx35411 hown hK hP hD (va_Sre hS) 1 rfl rfl 1 (by decide) (hts _ q_249) (fun _ h9 => h9) rfl (by decide +kernel) rfl rfl (Nat.le_of_ble_eq_true rfl) dJx35411_next_0502b_61 (fun H7 _ hP hD hS' => ?_)
  have hG : s.heap.size + 0 ≤ H7.size := Nat.le_trans hG hS'.1
  have hS := va_Str hS hS'
  have hP : va_P (dC, dI) xCl [(h2, .inl (kc0, 10, .inr (.inr (.inr (.inr (va_up (va_up (va_up (va_up (va_up (va_up (va_up (fun _ => none) 0 (some (z.2.2.1 128))) 1 (some (z.2.2.1 128))) 2 (some (z.2.2.1 128))) 3 (some (z.2.2.1 128))) 4 (some (z.2.2.1 128))) 5 (some (z.2.2.1 128))) 6 (some (z.2.2.1 128)))))))), (h0, .inr (1, [.int 2, .int 1, .int 7, .ref h1])), (h1, .inr (0, [.int 7, .ref h2, .int 7]))] H7 := hP
  have hD : va_D A [(h2, .inl (kc0, 10, .inr (.inr (.inr (.inr (va_up (va_up (va_up (va_up (va_up (va_up (va_up (fun _ => none) 0 (some (z.2.2.1 128))) 1 (some (z.2.2.1 128))) 2 (some (z.2.2.1 128))) 3 (some (z.2.2.1 128))) 4 (some (z.2.2.1 128))) 5 (some (z.2.2.1 128))) 6 (some (z.2.2.1 128)))))))), (h0, .inr (1, [.int 2, .int 1, .int 7, .ref h1])), (h1, .inr (0, [.int 7, .ref h2, .int 7]))] := hD
  refine va_aldq hx hb hK hP 0 0 rfl rfl (i := 1) (by unfold vp_in; decide) dJx35411_next_0502b_64 ?_
  refine W.eq (g2 := F0 m 65 ls [.ref (z.2.2.1 128)]) rfl ?_
  exact W.aret (v := .ref (z.2.2.1 128)) hx hb hr (by first | exact Or.inl ⟨_, rfl⟩ | exact Or.inr ⟨_, rfl⟩) (Or.inr ⟨_, rfl⟩) (fun t9 ht9 hW9 => ⟨⟨(), (z.2.2.1 128), rfl, trivial, ⟨rfl, ⟨pq_mk (wc := [(h0, .inr (1, [.int 2, .int 1, .int 7, .ref h1])), (h1, .inr (0, [.int 7, .ref h2, .int 7])), (h2, .inl (kc0, 10, .inr (.inr (.inr (.inr (va_up (va_up (va_up (va_up (va_up (va_up (va_up (fun _ => none) 0 (some (z.2.2.1 128))) 1 (some (z.2.2.1 128))) 2 (some (z.2.2.1 128))) 3 (some (z.2.2.1 128))) 4 (some (z.2.2.1 128))) 5 (some (z.2.2.1 128))) 6 (some (z.2.2.1 128))))))))]) (tc := [(kc0, .object "java/lang/Object")]) hP hD hK [1, 2, 0] [0] rfl rfl rfl rfl ht9 hW9, by rw [ht9]; exact Nat.le_trans (Nat.add_le_add_left (Nat.le_of_ble_eq_true rfl) _) hG⟩⟩⟩, hS.F ht9⟩) hS.2.2 dJx35411_next_0502b_65

set_option maxHeartbeats 4000000 in
set_option maxRecDepth 100000 in
theorem k636_hasNext (l : Launch) (hl9 : l.stackTraces = false) (dC : Nat → ClassId) (dI : Nat → Nat → Nat) (z : XZ) (h0 h1 : Nat) (o0 : Nat) (sz : Nat) : Met l yJx35411_hasNext_aae02 (.code yJx35411_hasNext_aae02 cJx35411_hasNext_aae02 1 (some .boolean) :: wsL_law) ({ frames := 0, cells := 0, slots := 0, locals := 0 }) (va_Pc [.ref h0] (PC (dC, dI) [(h0, .inr (1, [.int 2, .int 1, .int 7, .ref h1])), (h1, .inr (0, [.int 7, .ref o0, .int 7]))] [] sz z)) (va_Qi (fun (r : Int32) (_ : Unit) => r = 1) (fun (_ : Unit) (t : State) => PG (dC, dI) [(h0, .inr (1, [.int 2, .int 1, .int 7, .ref h1])), (h1, .inr (0, [.int 7, .ref o0, .int 7]))] [] (va_A [(h0, .inr (1, [.int 2, .int 1, .int 7, .ref h1])), (h1, .inr (0, [.int 7, .ref o0, .int 7]))] sz) sz 0 t) (va_A [(h0, .inr (1, [.int 2, .int 1, .int 7, .ref h1])), (h1, .inr (0, [.int 7, .ref o0, .int 7]))] sz)) 0 0 (va_A [(h0, .inr (1, [.int 2, .int 1, .int 7, .ref h1])), (h1, .inr (0, [.int 7, .ref o0, .int 7]))] sz) := by
  refine Met.ofW (cc := cJx35411_hasNext_aae02) (maxL := 1) (ret := (some .boolean)) (by decide) rfl ?_
  intro p e s m args below meth c s₁ B hml hv
  obtain ⟨rfl, hsz, hP, hK, hD0, hX, hT⟩ := hv
  have hx := B.exec
  have hb := B.bytes
  have hr := B.returns
  have hts0 := atoms_spec (ws := .code yJx35411_hasNext_aae02 cJx35411_hasNext_aae02 1 (some .boolean) :: wsL_law) B.pre
  have hts := xTail hts0
  have hown : s.vm.findClass RJx35411 = some m.cls := findClass_of_methodNamed B.named
  have hlocks := B.notSynchronized
  subst hsz
  have hD := hD0.self (sz := s.heap.size)
  generalize hAe : va_A [(h0, .inr (1, [.int 2, .int 1, .int 7, .ref h1])), (h1, .inr (0, [.int 7, .ref o0, .int 7]))] s.heap.size = A at hD hX ⊢
  have hA : ∀ q : Nat, s.heap.size ≤ q → A q := fun q h => by rw [← hAe]; exact Or.inr h
  have hS : va_S A s.heap s.heap [] := va_S.rf
  have hG : s.heap.size + 0 ≤ s.heap.size := Nat.le_refl _
  have hl := lv_entry ([.ref h0]) (n := 1) (Nat.le_of_ble_eq_true rfl)
  rw [lg_entry_eq]
  generalize (lg_sl ([.ref h0]) ++ List.replicate (1 - (lg_sl ([.ref h0])).length) Slot.unset).toArray = ls at hl ⊢
  have hl : lv_has ls 1 [(0, .ref h0)] := hl
  refine lv_aload_n hx hb dJx35411_hasNext_aae02_0 rfl (lv_at hl 0 rfl) ?_
  refine va_get (D := (dC, dI)) (ci := 1) (v := .int 2) (C := RJx35411) (T := TJx35411) (N := 4) hx hb hts in_Jx35411 hown hK hP 0 rfl rfl 0 (by decide) (hts _ q_259) (fun _ h9 => h9) rfl dJx35411_hasNext_aae02_1 ?_
  refine lv_aload_n hx hb dJx35411_hasNext_aae02_4 rfl (lv_at hl 0 rfl) ?_
  refine va_get (D := (dC, dI)) (ci := 1) (v := .ref h1) (C := RJx35411) (T := TJx35411) (N := 4) hx hb hts in_Jx35411 hown hK hP 0 rfl rfl 3 (by decide) (hts _ q_247) (fun _ h9 => h9) rfl dJx35411_hasNext_aae02_5 ?_
  refine va_getN (D := (dC, dI)) (ci := 0) (v := .int 7) (C := RJx4a65c) (T := TJx4a65c) (N := 3) hx hb hts in_Jx4a65c hown hK hP 1 rfl rfl 2 (by decide) (va_Nw.use rfl hT.2.2.2.2.1) (fun _ h9 => h9) rfl dJx35411_hasNext_aae02_8 ?_
  refine lv_icmp_eq (tgt := 18) hx hb dJx35411_hasNext_aae02_11 (by decide) (fun cz => absurd cz (by decide)) (fun _ => ?_)
  refine lv_iconst (v := 1) hx hb dJx35411_hasNext_aae02_14 (by decide) ?_
  refine lv_goto (tgt := 19) hx hb dJx35411_hasNext_aae02_15 (by decide) ?_
  exact W.zret (v := 1) (ty := .boolean) hx hb hr rfl (fun t9 ht9 hW9 => ⟨⟨1, (), rfl, rfl, ⟨pq_mk (wc := [(h0, .inr (1, [.int 2, .int 1, .int 7, .ref h1])), (h1, .inr (0, [.int 7, .ref o0, .int 7]))]) (tc := []) hP hD hK [0, 1] [] rfl rfl rfl rfl ht9 hW9, by rw [ht9]; exact Nat.le_trans (Nat.add_le_add_left (Nat.le_of_ble_eq_true rfl) _) hG⟩⟩, hS.F ht9⟩) hS.2.2 dJx35411_hasNext_aae02_19

set_option maxHeartbeats 4000000 in
set_option maxRecDepth 100000 in
theorem k637_checkForComodification (l : Launch) (hl9 : l.stackTraces = false) (dC : Nat → ClassId) (dI : Nat → Nat → Nat) (z : XZ) (h0 h1 : Nat) (o0 : Nat) (sz : Nat) : Met l yJx35411_checkForComodification_da8c8 (.code yJx35411_checkForComodification_da8c8 cJx35411_checkForComodification_da8c8 1 none :: wsL_law) ({ frames := 0, cells := 0, slots := 0, locals := 0 }) (va_Pc [.ref h0] (PC (dC, dI) [(h0, .inr (1, [.int 2, .int 1, .int 7, .ref h1])), (h1, .inr (0, [.int 7, .ref o0, .int 7]))] [] sz z)) (va_Qv (fun (_ : Unit) => True) (fun (_ : Unit) (t : State) => PG (dC, dI) [(h0, .inr (1, [.int 2, .int 1, .int 7, .ref h1])), (h1, .inr (0, [.int 7, .ref o0, .int 7]))] [] (va_A [(h0, .inr (1, [.int 2, .int 1, .int 7, .ref h1])), (h1, .inr (0, [.int 7, .ref o0, .int 7]))] sz) sz 0 t) (va_A [(h0, .inr (1, [.int 2, .int 1, .int 7, .ref h1])), (h1, .inr (0, [.int 7, .ref o0, .int 7]))] sz)) 0 0 (va_A [(h0, .inr (1, [.int 2, .int 1, .int 7, .ref h1])), (h1, .inr (0, [.int 7, .ref o0, .int 7]))] sz) := by
  refine Met.ofW (cc := cJx35411_checkForComodification_da8c8) (maxL := 1) (ret := none) (by decide) rfl ?_
  intro p e s m args below meth c s₁ B hml hv
  obtain ⟨rfl, hsz, hP, hK, hD0, hX, hT⟩ := hv
  have hx := B.exec
  have hb := B.bytes
  have hr := B.returns
  have hts0 := atoms_spec (ws := .code yJx35411_checkForComodification_da8c8 cJx35411_checkForComodification_da8c8 1 none :: wsL_law) B.pre
  have hts := xTail hts0
  have hown : s.vm.findClass RJx35411 = some m.cls := findClass_of_methodNamed B.named
  have hlocks := B.notSynchronized
  subst hsz
  have hD := hD0.self (sz := s.heap.size)
  generalize hAe : va_A [(h0, .inr (1, [.int 2, .int 1, .int 7, .ref h1])), (h1, .inr (0, [.int 7, .ref o0, .int 7]))] s.heap.size = A at hD hX ⊢
  have hA : ∀ q : Nat, s.heap.size ≤ q → A q := fun q h => by rw [← hAe]; exact Or.inr h
  have hS : va_S A s.heap s.heap [] := va_S.rf
  have hG : s.heap.size + 0 ≤ s.heap.size := Nat.le_refl _
  have hl := lv_entry ([.ref h0]) (n := 1) (Nat.le_of_ble_eq_true rfl)
  rw [lg_entry_eq]
  generalize (lg_sl ([.ref h0]) ++ List.replicate (1 - (lg_sl ([.ref h0])).length) Slot.unset).toArray = ls at hl ⊢
  have hl : lv_has ls 1 [(0, .ref h0)] := hl
  refine lv_aload_n hx hb dJx35411_checkForComodification_da8c8_0 rfl (lv_at hl 0 rfl) ?_
  refine va_get (D := (dC, dI)) (ci := 1) (v := .ref h1) (C := RJx35411) (T := TJx35411) (N := 4) hx hb hts in_Jx35411 hown hK hP 0 rfl rfl 3 (by decide) (hts _ q_247) (fun _ h9 => h9) rfl dJx35411_checkForComodification_da8c8_1 ?_
  refine va_get (D := (dC, dI)) (ci := 0) (v := .int 7) (C := RJx4a65c) (T := TJx4a65c) (N := 3) hx hb hts in_Jx4a65c hown hK hP 1 rfl rfl 0 (by decide) (hts _ q_250) (u_same (hts _ q_107)) rfl dJx35411_checkForComodification_da8c8_4 ?_
  refine lv_aload_n hx hb dJx35411_checkForComodification_da8c8_7 rfl (lv_at hl 0 rfl) ?_
  refine va_get (D := (dC, dI)) (ci := 1) (v := .int 7) (C := RJx35411) (T := TJx35411) (N := 4) hx hb hts in_Jx35411 hown hK hP 0 rfl rfl 2 (by decide) (hts _ q_251) (fun _ h9 => h9) rfl dJx35411_checkForComodification_da8c8_8 ?_
  refine lv_icmp_eq (tgt := 22) hx hb dJx35411_checkForComodification_da8c8_11 (by decide) (fun _ => ?_) (fun cz => absurd (by decide) cz)
  exact W.vret hx hb hr (fun t9 ht9 hW9 => ⟨⟨(), rfl, trivial, ⟨pq_mk (wc := [(h0, .inr (1, [.int 2, .int 1, .int 7, .ref h1])), (h1, .inr (0, [.int 7, .ref o0, .int 7]))]) (tc := []) hP hD hK [0, 1] [] rfl rfl rfl rfl ht9 hW9, by rw [ht9]; exact Nat.le_trans (Nat.add_le_add_left (Nat.le_of_ble_eq_true rfl) _) hG⟩⟩, hS.F ht9⟩) hS.2.2 dJx35411_checkForComodification_da8c8_22

set_option maxHeartbeats 4000000 in
set_option maxRecDepth 100000 in
theorem k638_next (l : Launch) (hl9 : l.stackTraces = false) (dC : Nat → ClassId) (dI : Nat → Nat → Nat) (z : XZ) (h0 h1 h2 : Nat) (sz : Nat) (kc0 : ClassId) : Met l yJx35411_next_0502b (.code yJx35411_next_0502b cJx35411_next_0502b 3 (some (.object "java/lang/Object")) :: wsL_law) ({ frames := 1, cells := 0, slots := 0, locals := 20 }) (va_Pc [.ref h0] (PC (dC, dI) [(h0, .inr (1, [.int 2, .int 1, .int 7, .ref h1])), (h1, .inr (0, [.int 7, .ref h2, .int 7])), (h2, .inl (kc0, 10, .inr (.inr (.inr (.inr (va_up (va_up (va_up (va_up (va_up (va_up (va_up (fun _ => none) 0 (some (z.2.2.1 128))) 1 (some (z.2.2.1 128))) 2 (some (z.2.2.1 128))) 3 (some (z.2.2.1 128))) 4 (some (z.2.2.1 128))) 5 (some (z.2.2.1 128))) 6 (some (z.2.2.1 128))))))))] [(kc0, .object "java/lang/Object")] sz z)) (va_Qr (fun (_ : Unit) => True) (fun (_ : Unit) (ra : Nat) (t : State) => ra = (z.2.2.1 128) ∧ PG (dC, dI) [(h0, .inr (1, [.int 3, .int 2, .int 7, .ref h1])), (h1, .inr (0, [.int 7, .ref h2, .int 7])), (h2, .inl (kc0, 10, .inr (.inr (.inr (.inr (va_up (va_up (va_up (va_up (va_up (va_up (va_up (fun _ => none) 0 (some (z.2.2.1 128))) 1 (some (z.2.2.1 128))) 2 (some (z.2.2.1 128))) 3 (some (z.2.2.1 128))) 4 (some (z.2.2.1 128))) 5 (some (z.2.2.1 128))) 6 (some (z.2.2.1 128))))))))] [(kc0, .object "java/lang/Object")] (va_A [(h0, .inr (1, [.int 2, .int 1, .int 7, .ref h1])), (h1, .inr (0, [.int 7, .ref h2, .int 7])), (h2, .inl (kc0, 10, .inr (.inr (.inr (.inr (va_up (va_up (va_up (va_up (va_up (va_up (va_up (fun _ => none) 0 (some (z.2.2.1 128))) 1 (some (z.2.2.1 128))) 2 (some (z.2.2.1 128))) 3 (some (z.2.2.1 128))) 4 (some (z.2.2.1 128))) 5 (some (z.2.2.1 128))) 6 (some (z.2.2.1 128))))))))] sz) sz 0 t) (va_A [(h0, .inr (1, [.int 2, .int 1, .int 7, .ref h1])), (h1, .inr (0, [.int 7, .ref h2, .int 7])), (h2, .inl (kc0, 10, .inr (.inr (.inr (.inr (va_up (va_up (va_up (va_up (va_up (va_up (va_up (fun _ => none) 0 (some (z.2.2.1 128))) 1 (some (z.2.2.1 128))) 2 (some (z.2.2.1 128))) 3 (some (z.2.2.1 128))) 4 (some (z.2.2.1 128))) 5 (some (z.2.2.1 128))) 6 (some (z.2.2.1 128))))))))] sz)) 0 0 (va_A [(h0, .inr (1, [.int 2, .int 1, .int 7, .ref h1])), (h1, .inr (0, [.int 7, .ref h2, .int 7])), (h2, .inl (kc0, 10, .inr (.inr (.inr (.inr (va_up (va_up (va_up (va_up (va_up (va_up (va_up (fun _ => none) 0 (some (z.2.2.1 128))) 1 (some (z.2.2.1 128))) 2 (some (z.2.2.1 128))) 3 (some (z.2.2.1 128))) 4 (some (z.2.2.1 128))) 5 (some (z.2.2.1 128))) 6 (some (z.2.2.1 128))))))))] sz) := by
  refine Met.ofW (cc := cJx35411_next_0502b) (maxL := 3) (ret := (some (.object "java/lang/Object"))) (by decide) rfl ?_
  intro p e s m args below meth c s₁ B hml hv
  obtain ⟨rfl, hsz, hP, hK, hD0, hX, hT⟩ := hv
  have hx := B.exec
  have hb := B.bytes
  have hr := B.returns
  have hts0 := atoms_spec (ws := .code yJx35411_next_0502b cJx35411_next_0502b 3 (some (.object "java/lang/Object")) :: wsL_law) B.pre
  have hts := xTail hts0
  have hown : s.vm.findClass RJx35411 = some m.cls := findClass_of_methodNamed B.named
  have hlocks := B.notSynchronized
  subst hsz
  have hD := hD0.self (sz := s.heap.size)
  generalize hAe : va_A [(h0, .inr (1, [.int 2, .int 1, .int 7, .ref h1])), (h1, .inr (0, [.int 7, .ref h2, .int 7])), (h2, .inl (kc0, 10, .inr (.inr (.inr (.inr (va_up (va_up (va_up (va_up (va_up (va_up (va_up (fun _ => none) 0 (some (z.2.2.1 128))) 1 (some (z.2.2.1 128))) 2 (some (z.2.2.1 128))) 3 (some (z.2.2.1 128))) 4 (some (z.2.2.1 128))) 5 (some (z.2.2.1 128))) 6 (some (z.2.2.1 128))))))))] s.heap.size = A at hD hX ⊢
  have hA : ∀ q : Nat, s.heap.size ≤ q → A q := fun q h => by rw [← hAe]; exact Or.inr h
  have hS : va_S A s.heap s.heap [] := va_S.rf
  have hG : s.heap.size + 0 ≤ s.heap.size := Nat.le_refl _
  have hl := lv_entry ([.ref h0]) (n := 3) (Nat.le_of_ble_eq_true rfl)
  rw [lg_entry_eq]
  generalize (lg_sl ([.ref h0]) ++ List.replicate (3 - (lg_sl ([.ref h0])).length) Slot.unset).toArray = ls at hl ⊢
  have hl : lv_has ls 3 [(0, .ref h0)] := hl
  refine lv_aload_n hx hb dJx35411_next_0502b_0 rfl (lv_at hl 0 rfl) ?_
  have hF1 := va_free (wc := [(h0, .inr (1, [.int 2, .int 1, .int 7, .ref h1])), (h1, .inr (0, [.int 7, .ref h2, .int 7]))]) hD hS hA [0, 1] rfl
  refine va_callv (va_runV (As := []) (rest := []) ⟨hx, hb, hml, hown, hts⟩ (k637_checkForComodification l hl9 dC dI z h0 h1 h2 s.heap.size) (cwV 0 hts (gV q_303 q_304 q_305 q_246 q_302) rfl rfl rfl (by decide +kernel) ⟨Nat.le_of_ble_eq_true rfl, Nat.le_of_ble_eq_true rfl⟩) ⟨pc_blind, va_recv hK hP (ci := 1) (q0 := 0) rfl rfl, fun U hU hW => ⟨rfl, pc_mk hP hD hK hS hX hT [0, 1] [] rfl rfl rfl rfl hF1 hU hW⟩⟩ rfl rfl hl.1 rfl (lv_room (Nat.le_of_ble_eq_true rfl)) dJx35411_next_0502b_1 ⟨(Nat.le_of_ble_eq_true rfl), (Nat.le_of_ble_eq_true rfl)⟩) hS (fun q9 _ h9 => hF1 q9 h9) hF1 (fun u3 t3 H3 L3 ht3 hvm3 hw3 hB3 hz3 hk3 hS => ?_)
  obtain ⟨hP, hD, hK⟩ := pq_join (wr := [(h2, .inl (kc0, 10, .inr (.inr (.inr (.inr (va_up (va_up (va_up (va_up (va_up (va_up (va_up (fun _ => none) 0 (some (z.2.2.1 128))) 1 (some (z.2.2.1 128))) 2 (some (z.2.2.1 128))) 3 (some (z.2.2.1 128))) 4 (some (z.2.2.1 128))) 5 (some (z.2.2.1 128))) 6 (some (z.2.2.1 128))))))))]) (tr := [(kc0, .object "java/lang/Object")]) (wz := [(h2, .inl (kc0, 10, .inr (.inr (.inr (.inr (va_up (va_up (va_up (va_up (va_up (va_up (va_up (fun _ => none) 0 (some (z.2.2.1 128))) 1 (some (z.2.2.1 128))) 2 (some (z.2.2.1 128))) 3 (some (z.2.2.1 128))) 4 (some (z.2.2.1 128))) 5 (some (z.2.2.1 128))) 6 (some (z.2.2.1 128)))))))), (h0, .inr (1, [.int 2, .int 1, .int 7, .ref h1])), (h1, .inr (0, [.int 7, .ref h2, .int 7]))]) (tz := [(kc0, .object "java/lang/Object")]) hP hD hK [0, 1] [2] [0] rfl rfl (by decide) (by decide) rfl hk3 hF1 hB3.1 ht3 hvm3 rfl rfl
  have hG : s.heap.size + 0 ≤ H3.size := Nat.le_trans hG hz3
  refine lv_aload_n hx hb dJx35411_next_0502b_4 rfl (lv_at hl 0 rfl) ?_
  refine va_get (D := (dC, dI)) (ci := 1) (v := .int 2) (C := RJx35411) (T := TJx35411) (N := 4) hx hb hts in_Jx35411 hown hK hP 1 rfl rfl 0 (by decide) (hts _ q_259) (fun _ h9 => h9) rfl dJx35411_next_0502b_5 ?_
  refine lv_istore_n (lv' := [(1, .int 2), (0, .ref h0)]) hx hb dJx35411_next_0502b_8 rfl hl (by decide) rfl (fun ls hl => ?_)
  refine lv_iload_n hx hb dJx35411_next_0502b_9 rfl (lv_at hl 0 rfl) ?_
  refine lv_aload_n hx hb dJx35411_next_0502b_10 rfl (lv_at hl 1 rfl) ?_
  refine va_get (D := (dC, dI)) (ci := 1) (v := .ref h1) (C := RJx35411) (T := TJx35411) (N := 4) hx hb hts in_Jx35411 hown hK hP 1 rfl rfl 3 (by decide) (hts _ q_247) (fun _ h9 => h9) rfl dJx35411_next_0502b_11 ?_
  refine va_getN (D := (dC, dI)) (ci := 0) (v := .int 7) (C := RJx4a65c) (T := TJx4a65c) (N := 3) hx hb hts in_Jx4a65c hown hK hP 2 rfl rfl 2 (by decide) (va_Nw.use rfl hT.2.2.2.2.1) (fun _ h9 => h9) rfl dJx35411_next_0502b_14 ?_
  refine lv_icmp_lt (tgt := 28) hx hb dJx35411_next_0502b_17 (by decide) (fun _ => ?_) (fun cz => absurd (by decide) cz)
  refine lv_aload_n hx hb dJx35411_next_0502b_28 rfl (lv_at hl 1 rfl) ?_
  refine va_get (D := (dC, dI)) (ci := 1) (v := .ref h1) (C := RJx35411) (T := TJx35411) (N := 4) hx hb hts in_Jx35411 hown hK hP 1 rfl rfl 3 (by decide) (hts _ q_247) (fun _ h9 => h9) rfl dJx35411_next_0502b_29 ?_
  refine va_get (D := (dC, dI)) (ci := 0) (v := .ref h2) (C := RJx4a65c) (T := TJx4a65c) (N := 3) hx hb hts in_Jx4a65c hown hK hP 2 rfl rfl 1 (by decide) (hts _ q_306) (fun _ h9 => h9) rfl dJx35411_next_0502b_32 ?_
  refine lv_astore_n (lv' := [(2, .ref h2), (1, .int 2), (0, .ref h0)]) hx hb dJx35411_next_0502b_35 rfl hl (by decide) rfl (fun ls hl => ?_)
  refine lv_iload_n hx hb dJx35411_next_0502b_36 rfl (lv_at hl 1 rfl) ?_
  refine lv_aload_n hx hb dJx35411_next_0502b_37 rfl (lv_at hl 0 rfl) ?_
  refine va_alen hx hb hK hP 0 0 rfl rfl (v := 10) rfl dJx35411_next_0502b_38 ?_
  refine lv_icmp_lt (tgt := 50) hx hb dJx35411_next_0502b_39 (by decide) (fun _ => ?_) (fun cz => absurd (by decide) cz)
  refine lv_aload_n hx hb dJx35411_next_0502b_50 rfl (lv_at hl 2 rfl) ?_
  refine lv_iload_n hx hb dJx35411_next_0502b_51 rfl (lv_at hl 1 rfl) ?_
  refine lv_iconst (v := 1) hx hb dJx35411_next_0502b_52 (by decide) ?_
  refine lv_iadd hx hb dJx35411_next_0502b_53 ?_
  refine lv_topi (fun y5 ey5 => ?_)
  obtain rfl : y5 = 3 := ey5.trans (by decide)
  refine va_put (D := (dC, dI)) (ci := 1) (v := .int 3) (ty := .int) (C := RJx35411) (T := TJx35411) (N := 4) hx hb hts in_Jx35411 tyJx35411 tyJx35411_ok nmJx35411 hown hK hP hD (va_Sre hS) 1 rfl rfl 0 (by decide) (hts _ q_259) (fun _ h9 => h9) rfl (by decide +kernel) rfl rfl (Nat.le_of_ble_eq_true rfl) dJx35411_next_0502b_54 (fun H6 _ hP hD hS' => ?_)
  have hG : s.heap.size + 0 ≤ H6.size := Nat.le_trans hG hS'.1
  have hS := va_Str hS hS'
  have hP : va_P (dC, dI) xCl [(h2, .inl (kc0, 10, .inr (.inr (.inr (.inr (va_up (va_up (va_up (va_up (va_up (va_up (va_up (fun _ => none) 0 (some (z.2.2.1 128))) 1 (some (z.2.2.1 128))) 2 (some (z.2.2.1 128))) 3 (some (z.2.2.1 128))) 4 (some (z.2.2.1 128))) 5 (some (z.2.2.1 128))) 6 (some (z.2.2.1 128)))))))), (h0, .inr (1, [.int 3, .int 1, .int 7, .ref h1])), (h1, .inr (0, [.int 7, .ref h2, .int 7]))] H6 := hP
  have hD : va_D A [(h2, .inl (kc0, 10, .inr (.inr (.inr (.inr (va_up (va_up (va_up (va_up (va_up (va_up (va_up (fun _ => none) 0 (some (z.2.2.1 128))) 1 (some (z.2.2.1 128))) 2 (some (z.2.2.1 128))) 3 (some (z.2.2.1 128))) 4 (some (z.2.2.1 128))) 5 (some (z.2.2.1 128))) 6 (some (z.2.2.1 128)))))))), (h0, .inr (1, [.int 3, .int 1, .int 7, .ref h1])), (h1, .inr (0, [.int 7, .ref h2, .int 7]))] := hD
  refine lv_aload_n hx hb dJx35411_next_0502b_57 rfl (lv_at hl 0 rfl) ?_
  refine lv_aload_n hx hb dJx35411_next_0502b_58 rfl (lv_at hl 2 rfl) ?_
  refine lv_iload_n hx hb dJx35411_next_0502b_59 rfl (lv_at hl 1 rfl) ?_
  refine lv_dup_x1 hx hb dJx35411_next_0502b_60 rfl rfl ?_
  refine va_put (D := (dC, dI)) (ci := 1) (v := .int 2) (ty := .int) (C := RJx35411) (T := TJx35411) (N := 4) hx hb hts in_Jx35411 tyJx35411 tyJx35411_ok nmJx35411 hown hK hP hD (va_Sre hS) 1 rfl rfl 1 (by decide) (hts _ q_249) (fun _ h9 => h9) rfl (by decide +kernel) rfl rfl (Nat.le_of_ble_eq_true rfl) dJx35411_next_0502b_61 (fun H7 _ hP hD hS' => ?_)
  have hG : s.heap.size + 0 ≤ H7.size := Nat.le_trans hG hS'.1
  have hS := va_Str hS hS'
  have hP : va_P (dC, dI) xCl [(h2, .inl (kc0, 10, .inr (.inr (.inr (.inr (va_up (va_up (va_up (va_up (va_up (va_up (va_up (fun _ => none) 0 (some (z.2.2.1 128))) 1 (some (z.2.2.1 128))) 2 (some (z.2.2.1 128))) 3 (some (z.2.2.1 128))) 4 (some (z.2.2.1 128))) 5 (some (z.2.2.1 128))) 6 (some (z.2.2.1 128)))))))), (h0, .inr (1, [.int 3, .int 2, .int 7, .ref h1])), (h1, .inr (0, [.int 7, .ref h2, .int 7]))] H7 := hP
  have hD : va_D A [(h2, .inl (kc0, 10, .inr (.inr (.inr (.inr (va_up (va_up (va_up (va_up (va_up (va_up (va_up (fun _ => none) 0 (some (z.2.2.1 128))) 1 (some (z.2.2.1 128))) 2 (some (z.2.2.1 128))) 3 (some (z.2.2.1 128))) 4 (some (z.2.2.1 128))) 5 (some (z.2.2.1 128))) 6 (some (z.2.2.1 128)))))))), (h0, .inr (1, [.int 3, .int 2, .int 7, .ref h1])), (h1, .inr (0, [.int 7, .ref h2, .int 7]))] := hD
  refine va_aldq hx hb hK hP 0 0 rfl rfl (i := 2) (by unfold vp_in; decide) dJx35411_next_0502b_64 ?_
  refine W.eq (g2 := F0 m 65 ls [.ref (z.2.2.1 128)]) rfl ?_
  exact W.aret (v := .ref (z.2.2.1 128)) hx hb hr (by first | exact Or.inl ⟨_, rfl⟩ | exact Or.inr ⟨_, rfl⟩) (Or.inr ⟨_, rfl⟩) (fun t9 ht9 hW9 => ⟨⟨(), (z.2.2.1 128), rfl, trivial, ⟨rfl, ⟨pq_mk (wc := [(h0, .inr (1, [.int 3, .int 2, .int 7, .ref h1])), (h1, .inr (0, [.int 7, .ref h2, .int 7])), (h2, .inl (kc0, 10, .inr (.inr (.inr (.inr (va_up (va_up (va_up (va_up (va_up (va_up (va_up (fun _ => none) 0 (some (z.2.2.1 128))) 1 (some (z.2.2.1 128))) 2 (some (z.2.2.1 128))) 3 (some (z.2.2.1 128))) 4 (some (z.2.2.1 128))) 5 (some (z.2.2.1 128))) 6 (some (z.2.2.1 128))))))))]) (tc := [(kc0, .object "java/lang/Object")]) hP hD hK [1, 2, 0] [0] rfl rfl rfl rfl ht9 hW9, by rw [ht9]; exact Nat.le_trans (Nat.add_le_add_left (Nat.le_of_ble_eq_true rfl) _) hG⟩⟩⟩, hS.F ht9⟩) hS.2.2 dJx35411_next_0502b_65

set_option maxHeartbeats 4000000 in
set_option maxRecDepth 100000 in
theorem k639_hasNext (l : Launch) (hl9 : l.stackTraces = false) (dC : Nat → ClassId) (dI : Nat → Nat → Nat) (z : XZ) (h0 h1 : Nat) (o0 : Nat) (sz : Nat) : Met l yJx35411_hasNext_aae02 (.code yJx35411_hasNext_aae02 cJx35411_hasNext_aae02 1 (some .boolean) :: wsL_law) ({ frames := 0, cells := 0, slots := 0, locals := 0 }) (va_Pc [.ref h0] (PC (dC, dI) [(h0, .inr (1, [.int 3, .int 2, .int 7, .ref h1])), (h1, .inr (0, [.int 7, .ref o0, .int 7]))] [] sz z)) (va_Qi (fun (r : Int32) (_ : Unit) => r = 1) (fun (_ : Unit) (t : State) => PG (dC, dI) [(h0, .inr (1, [.int 3, .int 2, .int 7, .ref h1])), (h1, .inr (0, [.int 7, .ref o0, .int 7]))] [] (va_A [(h0, .inr (1, [.int 3, .int 2, .int 7, .ref h1])), (h1, .inr (0, [.int 7, .ref o0, .int 7]))] sz) sz 0 t) (va_A [(h0, .inr (1, [.int 3, .int 2, .int 7, .ref h1])), (h1, .inr (0, [.int 7, .ref o0, .int 7]))] sz)) 0 0 (va_A [(h0, .inr (1, [.int 3, .int 2, .int 7, .ref h1])), (h1, .inr (0, [.int 7, .ref o0, .int 7]))] sz) := by
  refine Met.ofW (cc := cJx35411_hasNext_aae02) (maxL := 1) (ret := (some .boolean)) (by decide) rfl ?_
  intro p e s m args below meth c s₁ B hml hv
  obtain ⟨rfl, hsz, hP, hK, hD0, hX, hT⟩ := hv
  have hx := B.exec
  have hb := B.bytes
  have hr := B.returns
  have hts0 := atoms_spec (ws := .code yJx35411_hasNext_aae02 cJx35411_hasNext_aae02 1 (some .boolean) :: wsL_law) B.pre
  have hts := xTail hts0
  have hown : s.vm.findClass RJx35411 = some m.cls := findClass_of_methodNamed B.named
  have hlocks := B.notSynchronized
  subst hsz
  have hD := hD0.self (sz := s.heap.size)
  generalize hAe : va_A [(h0, .inr (1, [.int 3, .int 2, .int 7, .ref h1])), (h1, .inr (0, [.int 7, .ref o0, .int 7]))] s.heap.size = A at hD hX ⊢
  have hA : ∀ q : Nat, s.heap.size ≤ q → A q := fun q h => by rw [← hAe]; exact Or.inr h
  have hS : va_S A s.heap s.heap [] := va_S.rf
  have hG : s.heap.size + 0 ≤ s.heap.size := Nat.le_refl _
  have hl := lv_entry ([.ref h0]) (n := 1) (Nat.le_of_ble_eq_true rfl)
  rw [lg_entry_eq]
  generalize (lg_sl ([.ref h0]) ++ List.replicate (1 - (lg_sl ([.ref h0])).length) Slot.unset).toArray = ls at hl ⊢
  have hl : lv_has ls 1 [(0, .ref h0)] := hl
  refine lv_aload_n hx hb dJx35411_hasNext_aae02_0 rfl (lv_at hl 0 rfl) ?_
  refine va_get (D := (dC, dI)) (ci := 1) (v := .int 3) (C := RJx35411) (T := TJx35411) (N := 4) hx hb hts in_Jx35411 hown hK hP 0 rfl rfl 0 (by decide) (hts _ q_259) (fun _ h9 => h9) rfl dJx35411_hasNext_aae02_1 ?_
  refine lv_aload_n hx hb dJx35411_hasNext_aae02_4 rfl (lv_at hl 0 rfl) ?_
  refine va_get (D := (dC, dI)) (ci := 1) (v := .ref h1) (C := RJx35411) (T := TJx35411) (N := 4) hx hb hts in_Jx35411 hown hK hP 0 rfl rfl 3 (by decide) (hts _ q_247) (fun _ h9 => h9) rfl dJx35411_hasNext_aae02_5 ?_
  refine va_getN (D := (dC, dI)) (ci := 0) (v := .int 7) (C := RJx4a65c) (T := TJx4a65c) (N := 3) hx hb hts in_Jx4a65c hown hK hP 1 rfl rfl 2 (by decide) (va_Nw.use rfl hT.2.2.2.2.1) (fun _ h9 => h9) rfl dJx35411_hasNext_aae02_8 ?_
  refine lv_icmp_eq (tgt := 18) hx hb dJx35411_hasNext_aae02_11 (by decide) (fun cz => absurd cz (by decide)) (fun _ => ?_)
  refine lv_iconst (v := 1) hx hb dJx35411_hasNext_aae02_14 (by decide) ?_
  refine lv_goto (tgt := 19) hx hb dJx35411_hasNext_aae02_15 (by decide) ?_
  exact W.zret (v := 1) (ty := .boolean) hx hb hr rfl (fun t9 ht9 hW9 => ⟨⟨1, (), rfl, rfl, ⟨pq_mk (wc := [(h0, .inr (1, [.int 3, .int 2, .int 7, .ref h1])), (h1, .inr (0, [.int 7, .ref o0, .int 7]))]) (tc := []) hP hD hK [0, 1] [] rfl rfl rfl rfl ht9 hW9, by rw [ht9]; exact Nat.le_trans (Nat.add_le_add_left (Nat.le_of_ble_eq_true rfl) _) hG⟩⟩, hS.F ht9⟩) hS.2.2 dJx35411_hasNext_aae02_19

set_option maxHeartbeats 4000000 in
set_option maxRecDepth 100000 in
theorem k640_checkForComodification (l : Launch) (hl9 : l.stackTraces = false) (dC : Nat → ClassId) (dI : Nat → Nat → Nat) (z : XZ) (h0 h1 : Nat) (o0 : Nat) (sz : Nat) : Met l yJx35411_checkForComodification_da8c8 (.code yJx35411_checkForComodification_da8c8 cJx35411_checkForComodification_da8c8 1 none :: wsL_law) ({ frames := 0, cells := 0, slots := 0, locals := 0 }) (va_Pc [.ref h0] (PC (dC, dI) [(h0, .inr (1, [.int 3, .int 2, .int 7, .ref h1])), (h1, .inr (0, [.int 7, .ref o0, .int 7]))] [] sz z)) (va_Qv (fun (_ : Unit) => True) (fun (_ : Unit) (t : State) => PG (dC, dI) [(h0, .inr (1, [.int 3, .int 2, .int 7, .ref h1])), (h1, .inr (0, [.int 7, .ref o0, .int 7]))] [] (va_A [(h0, .inr (1, [.int 3, .int 2, .int 7, .ref h1])), (h1, .inr (0, [.int 7, .ref o0, .int 7]))] sz) sz 0 t) (va_A [(h0, .inr (1, [.int 3, .int 2, .int 7, .ref h1])), (h1, .inr (0, [.int 7, .ref o0, .int 7]))] sz)) 0 0 (va_A [(h0, .inr (1, [.int 3, .int 2, .int 7, .ref h1])), (h1, .inr (0, [.int 7, .ref o0, .int 7]))] sz) := by
  refine Met.ofW (cc := cJx35411_checkForComodification_da8c8) (maxL := 1) (ret := none) (by decide) rfl ?_
  intro p e s m args below meth c s₁ B hml hv
  obtain ⟨rfl, hsz, hP, hK, hD0, hX, hT⟩ := hv
  have hx := B.exec
  have hb := B.bytes
  have hr := B.returns
  have hts0 := atoms_spec (ws := .code yJx35411_checkForComodification_da8c8 cJx35411_checkForComodification_da8c8 1 none :: wsL_law) B.pre
  have hts := xTail hts0
  have hown : s.vm.findClass RJx35411 = some m.cls := findClass_of_methodNamed B.named
  have hlocks := B.notSynchronized
  subst hsz
  have hD := hD0.self (sz := s.heap.size)
  generalize hAe : va_A [(h0, .inr (1, [.int 3, .int 2, .int 7, .ref h1])), (h1, .inr (0, [.int 7, .ref o0, .int 7]))] s.heap.size = A at hD hX ⊢
  have hA : ∀ q : Nat, s.heap.size ≤ q → A q := fun q h => by rw [← hAe]; exact Or.inr h
  have hS : va_S A s.heap s.heap [] := va_S.rf
  have hG : s.heap.size + 0 ≤ s.heap.size := Nat.le_refl _
  have hl := lv_entry ([.ref h0]) (n := 1) (Nat.le_of_ble_eq_true rfl)
  rw [lg_entry_eq]
  generalize (lg_sl ([.ref h0]) ++ List.replicate (1 - (lg_sl ([.ref h0])).length) Slot.unset).toArray = ls at hl ⊢
  have hl : lv_has ls 1 [(0, .ref h0)] := hl
  refine lv_aload_n hx hb dJx35411_checkForComodification_da8c8_0 rfl (lv_at hl 0 rfl) ?_
  refine va_get (D := (dC, dI)) (ci := 1) (v := .ref h1) (C := RJx35411) (T := TJx35411) (N := 4) hx hb hts in_Jx35411 hown hK hP 0 rfl rfl 3 (by decide) (hts _ q_247) (fun _ h9 => h9) rfl dJx35411_checkForComodification_da8c8_1 ?_
  refine va_get (D := (dC, dI)) (ci := 0) (v := .int 7) (C := RJx4a65c) (T := TJx4a65c) (N := 3) hx hb hts in_Jx4a65c hown hK hP 1 rfl rfl 0 (by decide) (hts _ q_250) (u_same (hts _ q_107)) rfl dJx35411_checkForComodification_da8c8_4 ?_
  refine lv_aload_n hx hb dJx35411_checkForComodification_da8c8_7 rfl (lv_at hl 0 rfl) ?_
  refine va_get (D := (dC, dI)) (ci := 1) (v := .int 7) (C := RJx35411) (T := TJx35411) (N := 4) hx hb hts in_Jx35411 hown hK hP 0 rfl rfl 2 (by decide) (hts _ q_251) (fun _ h9 => h9) rfl dJx35411_checkForComodification_da8c8_8 ?_
  refine lv_icmp_eq (tgt := 22) hx hb dJx35411_checkForComodification_da8c8_11 (by decide) (fun _ => ?_) (fun cz => absurd (by decide) cz)
  exact W.vret hx hb hr (fun t9 ht9 hW9 => ⟨⟨(), rfl, trivial, ⟨pq_mk (wc := [(h0, .inr (1, [.int 3, .int 2, .int 7, .ref h1])), (h1, .inr (0, [.int 7, .ref o0, .int 7]))]) (tc := []) hP hD hK [0, 1] [] rfl rfl rfl rfl ht9 hW9, by rw [ht9]; exact Nat.le_trans (Nat.add_le_add_left (Nat.le_of_ble_eq_true rfl) _) hG⟩⟩, hS.F ht9⟩) hS.2.2 dJx35411_checkForComodification_da8c8_22

set_option maxHeartbeats 4000000 in
set_option maxRecDepth 100000 in
theorem k641_next (l : Launch) (hl9 : l.stackTraces = false) (dC : Nat → ClassId) (dI : Nat → Nat → Nat) (z : XZ) (h0 h1 h2 : Nat) (sz : Nat) (kc0 : ClassId) : Met l yJx35411_next_0502b (.code yJx35411_next_0502b cJx35411_next_0502b 3 (some (.object "java/lang/Object")) :: wsL_law) ({ frames := 1, cells := 0, slots := 0, locals := 20 }) (va_Pc [.ref h0] (PC (dC, dI) [(h0, .inr (1, [.int 3, .int 2, .int 7, .ref h1])), (h1, .inr (0, [.int 7, .ref h2, .int 7])), (h2, .inl (kc0, 10, .inr (.inr (.inr (.inr (va_up (va_up (va_up (va_up (va_up (va_up (va_up (fun _ => none) 0 (some (z.2.2.1 128))) 1 (some (z.2.2.1 128))) 2 (some (z.2.2.1 128))) 3 (some (z.2.2.1 128))) 4 (some (z.2.2.1 128))) 5 (some (z.2.2.1 128))) 6 (some (z.2.2.1 128))))))))] [(kc0, .object "java/lang/Object")] sz z)) (va_Qr (fun (_ : Unit) => True) (fun (_ : Unit) (ra : Nat) (t : State) => ra = (z.2.2.1 128) ∧ PG (dC, dI) [(h0, .inr (1, [.int 4, .int 3, .int 7, .ref h1])), (h1, .inr (0, [.int 7, .ref h2, .int 7])), (h2, .inl (kc0, 10, .inr (.inr (.inr (.inr (va_up (va_up (va_up (va_up (va_up (va_up (va_up (fun _ => none) 0 (some (z.2.2.1 128))) 1 (some (z.2.2.1 128))) 2 (some (z.2.2.1 128))) 3 (some (z.2.2.1 128))) 4 (some (z.2.2.1 128))) 5 (some (z.2.2.1 128))) 6 (some (z.2.2.1 128))))))))] [(kc0, .object "java/lang/Object")] (va_A [(h0, .inr (1, [.int 3, .int 2, .int 7, .ref h1])), (h1, .inr (0, [.int 7, .ref h2, .int 7])), (h2, .inl (kc0, 10, .inr (.inr (.inr (.inr (va_up (va_up (va_up (va_up (va_up (va_up (va_up (fun _ => none) 0 (some (z.2.2.1 128))) 1 (some (z.2.2.1 128))) 2 (some (z.2.2.1 128))) 3 (some (z.2.2.1 128))) 4 (some (z.2.2.1 128))) 5 (some (z.2.2.1 128))) 6 (some (z.2.2.1 128))))))))] sz) sz 0 t) (va_A [(h0, .inr (1, [.int 3, .int 2, .int 7, .ref h1])), (h1, .inr (0, [.int 7, .ref h2, .int 7])), (h2, .inl (kc0, 10, .inr (.inr (.inr (.inr (va_up (va_up (va_up (va_up (va_up (va_up (va_up (fun _ => none) 0 (some (z.2.2.1 128))) 1 (some (z.2.2.1 128))) 2 (some (z.2.2.1 128))) 3 (some (z.2.2.1 128))) 4 (some (z.2.2.1 128))) 5 (some (z.2.2.1 128))) 6 (some (z.2.2.1 128))))))))] sz)) 0 0 (va_A [(h0, .inr (1, [.int 3, .int 2, .int 7, .ref h1])), (h1, .inr (0, [.int 7, .ref h2, .int 7])), (h2, .inl (kc0, 10, .inr (.inr (.inr (.inr (va_up (va_up (va_up (va_up (va_up (va_up (va_up (fun _ => none) 0 (some (z.2.2.1 128))) 1 (some (z.2.2.1 128))) 2 (some (z.2.2.1 128))) 3 (some (z.2.2.1 128))) 4 (some (z.2.2.1 128))) 5 (some (z.2.2.1 128))) 6 (some (z.2.2.1 128))))))))] sz) := by
  refine Met.ofW (cc := cJx35411_next_0502b) (maxL := 3) (ret := (some (.object "java/lang/Object"))) (by decide) rfl ?_
  intro p e s m args below meth c s₁ B hml hv
  obtain ⟨rfl, hsz, hP, hK, hD0, hX, hT⟩ := hv
  have hx := B.exec
  have hb := B.bytes
  have hr := B.returns
  have hts0 := atoms_spec (ws := .code yJx35411_next_0502b cJx35411_next_0502b 3 (some (.object "java/lang/Object")) :: wsL_law) B.pre
  have hts := xTail hts0
  have hown : s.vm.findClass RJx35411 = some m.cls := findClass_of_methodNamed B.named
  have hlocks := B.notSynchronized
  subst hsz
  have hD := hD0.self (sz := s.heap.size)
  generalize hAe : va_A [(h0, .inr (1, [.int 3, .int 2, .int 7, .ref h1])), (h1, .inr (0, [.int 7, .ref h2, .int 7])), (h2, .inl (kc0, 10, .inr (.inr (.inr (.inr (va_up (va_up (va_up (va_up (va_up (va_up (va_up (fun _ => none) 0 (some (z.2.2.1 128))) 1 (some (z.2.2.1 128))) 2 (some (z.2.2.1 128))) 3 (some (z.2.2.1 128))) 4 (some (z.2.2.1 128))) 5 (some (z.2.2.1 128))) 6 (some (z.2.2.1 128))))))))] s.heap.size = A at hD hX ⊢
  have hA : ∀ q : Nat, s.heap.size ≤ q → A q := fun q h => by rw [← hAe]; exact Or.inr h
  have hS : va_S A s.heap s.heap [] := va_S.rf
  have hG : s.heap.size + 0 ≤ s.heap.size := Nat.le_refl _
  have hl := lv_entry ([.ref h0]) (n := 3) (Nat.le_of_ble_eq_true rfl)
  rw [lg_entry_eq]
  generalize (lg_sl ([.ref h0]) ++ List.replicate (3 - (lg_sl ([.ref h0])).length) Slot.unset).toArray = ls at hl ⊢
  have hl : lv_has ls 3 [(0, .ref h0)] := hl
  refine lv_aload_n hx hb dJx35411_next_0502b_0 rfl (lv_at hl 0 rfl) ?_
  have hF1 := va_free (wc := [(h0, .inr (1, [.int 3, .int 2, .int 7, .ref h1])), (h1, .inr (0, [.int 7, .ref h2, .int 7]))]) hD hS hA [0, 1] rfl
  refine va_callv (va_runV (As := []) (rest := []) ⟨hx, hb, hml, hown, hts⟩ (k640_checkForComodification l hl9 dC dI z h0 h1 h2 s.heap.size) (cwV 0 hts (gV q_303 q_304 q_305 q_246 q_302) rfl rfl rfl (by decide +kernel) ⟨Nat.le_of_ble_eq_true rfl, Nat.le_of_ble_eq_true rfl⟩) ⟨pc_blind, va_recv hK hP (ci := 1) (q0 := 0) rfl rfl, fun U hU hW => ⟨rfl, pc_mk hP hD hK hS hX hT [0, 1] [] rfl rfl rfl rfl hF1 hU hW⟩⟩ rfl rfl hl.1 rfl (lv_room (Nat.le_of_ble_eq_true rfl)) dJx35411_next_0502b_1 ⟨(Nat.le_of_ble_eq_true rfl), (Nat.le_of_ble_eq_true rfl)⟩) hS (fun q9 _ h9 => hF1 q9 h9) hF1 (fun u3 t3 H3 L3 ht3 hvm3 hw3 hB3 hz3 hk3 hS => ?_)
  obtain ⟨hP, hD, hK⟩ := pq_join (wr := [(h2, .inl (kc0, 10, .inr (.inr (.inr (.inr (va_up (va_up (va_up (va_up (va_up (va_up (va_up (fun _ => none) 0 (some (z.2.2.1 128))) 1 (some (z.2.2.1 128))) 2 (some (z.2.2.1 128))) 3 (some (z.2.2.1 128))) 4 (some (z.2.2.1 128))) 5 (some (z.2.2.1 128))) 6 (some (z.2.2.1 128))))))))]) (tr := [(kc0, .object "java/lang/Object")]) (wz := [(h2, .inl (kc0, 10, .inr (.inr (.inr (.inr (va_up (va_up (va_up (va_up (va_up (va_up (va_up (fun _ => none) 0 (some (z.2.2.1 128))) 1 (some (z.2.2.1 128))) 2 (some (z.2.2.1 128))) 3 (some (z.2.2.1 128))) 4 (some (z.2.2.1 128))) 5 (some (z.2.2.1 128))) 6 (some (z.2.2.1 128)))))))), (h0, .inr (1, [.int 3, .int 2, .int 7, .ref h1])), (h1, .inr (0, [.int 7, .ref h2, .int 7]))]) (tz := [(kc0, .object "java/lang/Object")]) hP hD hK [0, 1] [2] [0] rfl rfl (by decide) (by decide) rfl hk3 hF1 hB3.1 ht3 hvm3 rfl rfl
  have hG : s.heap.size + 0 ≤ H3.size := Nat.le_trans hG hz3
  refine lv_aload_n hx hb dJx35411_next_0502b_4 rfl (lv_at hl 0 rfl) ?_
  refine va_get (D := (dC, dI)) (ci := 1) (v := .int 3) (C := RJx35411) (T := TJx35411) (N := 4) hx hb hts in_Jx35411 hown hK hP 1 rfl rfl 0 (by decide) (hts _ q_259) (fun _ h9 => h9) rfl dJx35411_next_0502b_5 ?_
  refine lv_istore_n (lv' := [(1, .int 3), (0, .ref h0)]) hx hb dJx35411_next_0502b_8 rfl hl (by decide) rfl (fun ls hl => ?_)
  refine lv_iload_n hx hb dJx35411_next_0502b_9 rfl (lv_at hl 0 rfl) ?_
  refine lv_aload_n hx hb dJx35411_next_0502b_10 rfl (lv_at hl 1 rfl) ?_
  refine va_get (D := (dC, dI)) (ci := 1) (v := .ref h1) (C := RJx35411) (T := TJx35411) (N := 4) hx hb hts in_Jx35411 hown hK hP 1 rfl rfl 3 (by decide) (hts _ q_247) (fun _ h9 => h9) rfl dJx35411_next_0502b_11 ?_
  refine va_getN (D := (dC, dI)) (ci := 0) (v := .int 7) (C := RJx4a65c) (T := TJx4a65c) (N := 3) hx hb hts in_Jx4a65c hown hK hP 2 rfl rfl 2 (by decide) (va_Nw.use rfl hT.2.2.2.2.1) (fun _ h9 => h9) rfl dJx35411_next_0502b_14 ?_
  refine lv_icmp_lt (tgt := 28) hx hb dJx35411_next_0502b_17 (by decide) (fun _ => ?_) (fun cz => absurd (by decide) cz)
  refine lv_aload_n hx hb dJx35411_next_0502b_28 rfl (lv_at hl 1 rfl) ?_
  refine va_get (D := (dC, dI)) (ci := 1) (v := .ref h1) (C := RJx35411) (T := TJx35411) (N := 4) hx hb hts in_Jx35411 hown hK hP 1 rfl rfl 3 (by decide) (hts _ q_247) (fun _ h9 => h9) rfl dJx35411_next_0502b_29 ?_
  refine va_get (D := (dC, dI)) (ci := 0) (v := .ref h2) (C := RJx4a65c) (T := TJx4a65c) (N := 3) hx hb hts in_Jx4a65c hown hK hP 2 rfl rfl 1 (by decide) (hts _ q_306) (fun _ h9 => h9) rfl dJx35411_next_0502b_32 ?_
  refine lv_astore_n (lv' := [(2, .ref h2), (1, .int 3), (0, .ref h0)]) hx hb dJx35411_next_0502b_35 rfl hl (by decide) rfl (fun ls hl => ?_)
  refine lv_iload_n hx hb dJx35411_next_0502b_36 rfl (lv_at hl 1 rfl) ?_
  refine lv_aload_n hx hb dJx35411_next_0502b_37 rfl (lv_at hl 0 rfl) ?_
  refine va_alen hx hb hK hP 0 0 rfl rfl (v := 10) rfl dJx35411_next_0502b_38 ?_
  refine lv_icmp_lt (tgt := 50) hx hb dJx35411_next_0502b_39 (by decide) (fun _ => ?_) (fun cz => absurd (by decide) cz)
  refine lv_aload_n hx hb dJx35411_next_0502b_50 rfl (lv_at hl 2 rfl) ?_
  refine lv_iload_n hx hb dJx35411_next_0502b_51 rfl (lv_at hl 1 rfl) ?_
  refine lv_iconst (v := 1) hx hb dJx35411_next_0502b_52 (by decide) ?_
  refine lv_iadd hx hb dJx35411_next_0502b_53 ?_
  refine lv_topi (fun y5 ey5 => ?_)
  obtain rfl : y5 = 4 := ey5.trans (by decide)
  refine va_put (D := (dC, dI)) (ci := 1) (v := .int 4) (ty := .int) (C := RJx35411) (T := TJx35411) (N := 4) hx hb hts in_Jx35411 tyJx35411 tyJx35411_ok nmJx35411 hown hK hP hD (va_Sre hS) 1 rfl rfl 0 (by decide) (hts _ q_259) (fun _ h9 => h9) rfl (by decide +kernel) rfl rfl (Nat.le_of_ble_eq_true rfl) dJx35411_next_0502b_54 (fun H6 _ hP hD hS' => ?_)
  have hG : s.heap.size + 0 ≤ H6.size := Nat.le_trans hG hS'.1
  have hS := va_Str hS hS'
  have hP : va_P (dC, dI) xCl [(h2, .inl (kc0, 10, .inr (.inr (.inr (.inr (va_up (va_up (va_up (va_up (va_up (va_up (va_up (fun _ => none) 0 (some (z.2.2.1 128))) 1 (some (z.2.2.1 128))) 2 (some (z.2.2.1 128))) 3 (some (z.2.2.1 128))) 4 (some (z.2.2.1 128))) 5 (some (z.2.2.1 128))) 6 (some (z.2.2.1 128)))))))), (h0, .inr (1, [.int 4, .int 2, .int 7, .ref h1])), (h1, .inr (0, [.int 7, .ref h2, .int 7]))] H6 := hP
  have hD : va_D A [(h2, .inl (kc0, 10, .inr (.inr (.inr (.inr (va_up (va_up (va_up (va_up (va_up (va_up (va_up (fun _ => none) 0 (some (z.2.2.1 128))) 1 (some (z.2.2.1 128))) 2 (some (z.2.2.1 128))) 3 (some (z.2.2.1 128))) 4 (some (z.2.2.1 128))) 5 (some (z.2.2.1 128))) 6 (some (z.2.2.1 128)))))))), (h0, .inr (1, [.int 4, .int 2, .int 7, .ref h1])), (h1, .inr (0, [.int 7, .ref h2, .int 7]))] := hD
  refine lv_aload_n hx hb dJx35411_next_0502b_57 rfl (lv_at hl 0 rfl) ?_
  refine lv_aload_n hx hb dJx35411_next_0502b_58 rfl (lv_at hl 2 rfl) ?_
  refine lv_iload_n hx hb dJx35411_next_0502b_59 rfl (lv_at hl 1 rfl) ?_
  refine lv_dup_x1 hx hb dJx35411_next_0502b_60 rfl rfl ?_
  refine va_put (D := (dC, dI)) (ci := 1) (v := .int 3) (ty := .int) (C := RJx35411) (T := TJx35411) (N := 4) hx hb hts in_Jx35411 tyJx35411 tyJx35411_ok nmJx35411 hown hK hP hD (va_Sre hS) 1 rfl rfl 1 (by decide) (hts _ q_249) (fun _ h9 => h9) rfl (by decide +kernel) rfl rfl (Nat.le_of_ble_eq_true rfl) dJx35411_next_0502b_61 (fun H7 _ hP hD hS' => ?_)
  have hG : s.heap.size + 0 ≤ H7.size := Nat.le_trans hG hS'.1
  have hS := va_Str hS hS'
  have hP : va_P (dC, dI) xCl [(h2, .inl (kc0, 10, .inr (.inr (.inr (.inr (va_up (va_up (va_up (va_up (va_up (va_up (va_up (fun _ => none) 0 (some (z.2.2.1 128))) 1 (some (z.2.2.1 128))) 2 (some (z.2.2.1 128))) 3 (some (z.2.2.1 128))) 4 (some (z.2.2.1 128))) 5 (some (z.2.2.1 128))) 6 (some (z.2.2.1 128)))))))), (h0, .inr (1, [.int 4, .int 3, .int 7, .ref h1])), (h1, .inr (0, [.int 7, .ref h2, .int 7]))] H7 := hP
  have hD : va_D A [(h2, .inl (kc0, 10, .inr (.inr (.inr (.inr (va_up (va_up (va_up (va_up (va_up (va_up (va_up (fun _ => none) 0 (some (z.2.2.1 128))) 1 (some (z.2.2.1 128))) 2 (some (z.2.2.1 128))) 3 (some (z.2.2.1 128))) 4 (some (z.2.2.1 128))) 5 (some (z.2.2.1 128))) 6 (some (z.2.2.1 128)))))))), (h0, .inr (1, [.int 4, .int 3, .int 7, .ref h1])), (h1, .inr (0, [.int 7, .ref h2, .int 7]))] := hD
  refine va_aldq hx hb hK hP 0 0 rfl rfl (i := 3) (by unfold vp_in; decide) dJx35411_next_0502b_64 ?_
  refine W.eq (g2 := F0 m 65 ls [.ref (z.2.2.1 128)]) rfl ?_
  exact W.aret (v := .ref (z.2.2.1 128)) hx hb hr (by first | exact Or.inl ⟨_, rfl⟩ | exact Or.inr ⟨_, rfl⟩) (Or.inr ⟨_, rfl⟩) (fun t9 ht9 hW9 => ⟨⟨(), (z.2.2.1 128), rfl, trivial, ⟨rfl, ⟨pq_mk (wc := [(h0, .inr (1, [.int 4, .int 3, .int 7, .ref h1])), (h1, .inr (0, [.int 7, .ref h2, .int 7])), (h2, .inl (kc0, 10, .inr (.inr (.inr (.inr (va_up (va_up (va_up (va_up (va_up (va_up (va_up (fun _ => none) 0 (some (z.2.2.1 128))) 1 (some (z.2.2.1 128))) 2 (some (z.2.2.1 128))) 3 (some (z.2.2.1 128))) 4 (some (z.2.2.1 128))) 5 (some (z.2.2.1 128))) 6 (some (z.2.2.1 128))))))))]) (tc := [(kc0, .object "java/lang/Object")]) hP hD hK [1, 2, 0] [0] rfl rfl rfl rfl ht9 hW9, by rw [ht9]; exact Nat.le_trans (Nat.add_le_add_left (Nat.le_of_ble_eq_true rfl) _) hG⟩⟩⟩, hS.F ht9⟩) hS.2.2 dJx35411_next_0502b_65

set_option maxHeartbeats 4000000 in
set_option maxRecDepth 100000 in
theorem k642_hasNext (l : Launch) (hl9 : l.stackTraces = false) (dC : Nat → ClassId) (dI : Nat → Nat → Nat) (z : XZ) (h0 h1 : Nat) (o0 : Nat) (sz : Nat) : Met l yJx35411_hasNext_aae02 (.code yJx35411_hasNext_aae02 cJx35411_hasNext_aae02 1 (some .boolean) :: wsL_law) ({ frames := 0, cells := 0, slots := 0, locals := 0 }) (va_Pc [.ref h0] (PC (dC, dI) [(h0, .inr (1, [.int 4, .int 3, .int 7, .ref h1])), (h1, .inr (0, [.int 7, .ref o0, .int 7]))] [] sz z)) (va_Qi (fun (r : Int32) (_ : Unit) => r = 1) (fun (_ : Unit) (t : State) => PG (dC, dI) [(h0, .inr (1, [.int 4, .int 3, .int 7, .ref h1])), (h1, .inr (0, [.int 7, .ref o0, .int 7]))] [] (va_A [(h0, .inr (1, [.int 4, .int 3, .int 7, .ref h1])), (h1, .inr (0, [.int 7, .ref o0, .int 7]))] sz) sz 0 t) (va_A [(h0, .inr (1, [.int 4, .int 3, .int 7, .ref h1])), (h1, .inr (0, [.int 7, .ref o0, .int 7]))] sz)) 0 0 (va_A [(h0, .inr (1, [.int 4, .int 3, .int 7, .ref h1])), (h1, .inr (0, [.int 7, .ref o0, .int 7]))] sz) := by
  refine Met.ofW (cc := cJx35411_hasNext_aae02) (maxL := 1) (ret := (some .boolean)) (by decide) rfl ?_
  intro p e s m args below meth c s₁ B hml hv
  obtain ⟨rfl, hsz, hP, hK, hD0, hX, hT⟩ := hv
  have hx := B.exec
  have hb := B.bytes
  have hr := B.returns
  have hts0 := atoms_spec (ws := .code yJx35411_hasNext_aae02 cJx35411_hasNext_aae02 1 (some .boolean) :: wsL_law) B.pre
  have hts := xTail hts0
  have hown : s.vm.findClass RJx35411 = some m.cls := findClass_of_methodNamed B.named
  have hlocks := B.notSynchronized
  subst hsz
  have hD := hD0.self (sz := s.heap.size)
  generalize hAe : va_A [(h0, .inr (1, [.int 4, .int 3, .int 7, .ref h1])), (h1, .inr (0, [.int 7, .ref o0, .int 7]))] s.heap.size = A at hD hX ⊢
  have hA : ∀ q : Nat, s.heap.size ≤ q → A q := fun q h => by rw [← hAe]; exact Or.inr h
  have hS : va_S A s.heap s.heap [] := va_S.rf
  have hG : s.heap.size + 0 ≤ s.heap.size := Nat.le_refl _
  have hl := lv_entry ([.ref h0]) (n := 1) (Nat.le_of_ble_eq_true rfl)
  rw [lg_entry_eq]
  generalize (lg_sl ([.ref h0]) ++ List.replicate (1 - (lg_sl ([.ref h0])).length) Slot.unset).toArray = ls at hl ⊢
  have hl : lv_has ls 1 [(0, .ref h0)] := hl
  refine lv_aload_n hx hb dJx35411_hasNext_aae02_0 rfl (lv_at hl 0 rfl) ?_
  refine va_get (D := (dC, dI)) (ci := 1) (v := .int 4) (C := RJx35411) (T := TJx35411) (N := 4) hx hb hts in_Jx35411 hown hK hP 0 rfl rfl 0 (by decide) (hts _ q_259) (fun _ h9 => h9) rfl dJx35411_hasNext_aae02_1 ?_
  refine lv_aload_n hx hb dJx35411_hasNext_aae02_4 rfl (lv_at hl 0 rfl) ?_
  refine va_get (D := (dC, dI)) (ci := 1) (v := .ref h1) (C := RJx35411) (T := TJx35411) (N := 4) hx hb hts in_Jx35411 hown hK hP 0 rfl rfl 3 (by decide) (hts _ q_247) (fun _ h9 => h9) rfl dJx35411_hasNext_aae02_5 ?_
  refine va_getN (D := (dC, dI)) (ci := 0) (v := .int 7) (C := RJx4a65c) (T := TJx4a65c) (N := 3) hx hb hts in_Jx4a65c hown hK hP 1 rfl rfl 2 (by decide) (va_Nw.use rfl hT.2.2.2.2.1) (fun _ h9 => h9) rfl dJx35411_hasNext_aae02_8 ?_
  refine lv_icmp_eq (tgt := 18) hx hb dJx35411_hasNext_aae02_11 (by decide) (fun cz => absurd cz (by decide)) (fun _ => ?_)
  refine lv_iconst (v := 1) hx hb dJx35411_hasNext_aae02_14 (by decide) ?_
  refine lv_goto (tgt := 19) hx hb dJx35411_hasNext_aae02_15 (by decide) ?_
  exact W.zret (v := 1) (ty := .boolean) hx hb hr rfl (fun t9 ht9 hW9 => ⟨⟨1, (), rfl, rfl, ⟨pq_mk (wc := [(h0, .inr (1, [.int 4, .int 3, .int 7, .ref h1])), (h1, .inr (0, [.int 7, .ref o0, .int 7]))]) (tc := []) hP hD hK [0, 1] [] rfl rfl rfl rfl ht9 hW9, by rw [ht9]; exact Nat.le_trans (Nat.add_le_add_left (Nat.le_of_ble_eq_true rfl) _) hG⟩⟩, hS.F ht9⟩) hS.2.2 dJx35411_hasNext_aae02_19

set_option maxHeartbeats 4000000 in
set_option maxRecDepth 100000 in
theorem k643_checkForComodification (l : Launch) (hl9 : l.stackTraces = false) (dC : Nat → ClassId) (dI : Nat → Nat → Nat) (z : XZ) (h0 h1 : Nat) (o0 : Nat) (sz : Nat) : Met l yJx35411_checkForComodification_da8c8 (.code yJx35411_checkForComodification_da8c8 cJx35411_checkForComodification_da8c8 1 none :: wsL_law) ({ frames := 0, cells := 0, slots := 0, locals := 0 }) (va_Pc [.ref h0] (PC (dC, dI) [(h0, .inr (1, [.int 4, .int 3, .int 7, .ref h1])), (h1, .inr (0, [.int 7, .ref o0, .int 7]))] [] sz z)) (va_Qv (fun (_ : Unit) => True) (fun (_ : Unit) (t : State) => PG (dC, dI) [(h0, .inr (1, [.int 4, .int 3, .int 7, .ref h1])), (h1, .inr (0, [.int 7, .ref o0, .int 7]))] [] (va_A [(h0, .inr (1, [.int 4, .int 3, .int 7, .ref h1])), (h1, .inr (0, [.int 7, .ref o0, .int 7]))] sz) sz 0 t) (va_A [(h0, .inr (1, [.int 4, .int 3, .int 7, .ref h1])), (h1, .inr (0, [.int 7, .ref o0, .int 7]))] sz)) 0 0 (va_A [(h0, .inr (1, [.int 4, .int 3, .int 7, .ref h1])), (h1, .inr (0, [.int 7, .ref o0, .int 7]))] sz) := by
  refine Met.ofW (cc := cJx35411_checkForComodification_da8c8) (maxL := 1) (ret := none) (by decide) rfl ?_
  intro p e s m args below meth c s₁ B hml hv
  obtain ⟨rfl, hsz, hP, hK, hD0, hX, hT⟩ := hv
  have hx := B.exec
  have hb := B.bytes
  have hr := B.returns
  have hts0 := atoms_spec (ws := .code yJx35411_checkForComodification_da8c8 cJx35411_checkForComodification_da8c8 1 none :: wsL_law) B.pre
  have hts := xTail hts0
  have hown : s.vm.findClass RJx35411 = some m.cls := findClass_of_methodNamed B.named
  have hlocks := B.notSynchronized
  subst hsz
  have hD := hD0.self (sz := s.heap.size)
  generalize hAe : va_A [(h0, .inr (1, [.int 4, .int 3, .int 7, .ref h1])), (h1, .inr (0, [.int 7, .ref o0, .int 7]))] s.heap.size = A at hD hX ⊢
  have hA : ∀ q : Nat, s.heap.size ≤ q → A q := fun q h => by rw [← hAe]; exact Or.inr h
  have hS : va_S A s.heap s.heap [] := va_S.rf
  have hG : s.heap.size + 0 ≤ s.heap.size := Nat.le_refl _
  have hl := lv_entry ([.ref h0]) (n := 1) (Nat.le_of_ble_eq_true rfl)
  rw [lg_entry_eq]
  generalize (lg_sl ([.ref h0]) ++ List.replicate (1 - (lg_sl ([.ref h0])).length) Slot.unset).toArray = ls at hl ⊢
  have hl : lv_has ls 1 [(0, .ref h0)] := hl
  refine lv_aload_n hx hb dJx35411_checkForComodification_da8c8_0 rfl (lv_at hl 0 rfl) ?_
  refine va_get (D := (dC, dI)) (ci := 1) (v := .ref h1) (C := RJx35411) (T := TJx35411) (N := 4) hx hb hts in_Jx35411 hown hK hP 0 rfl rfl 3 (by decide) (hts _ q_247) (fun _ h9 => h9) rfl dJx35411_checkForComodification_da8c8_1 ?_
  refine va_get (D := (dC, dI)) (ci := 0) (v := .int 7) (C := RJx4a65c) (T := TJx4a65c) (N := 3) hx hb hts in_Jx4a65c hown hK hP 1 rfl rfl 0 (by decide) (hts _ q_250) (u_same (hts _ q_107)) rfl dJx35411_checkForComodification_da8c8_4 ?_
  refine lv_aload_n hx hb dJx35411_checkForComodification_da8c8_7 rfl (lv_at hl 0 rfl) ?_
  refine va_get (D := (dC, dI)) (ci := 1) (v := .int 7) (C := RJx35411) (T := TJx35411) (N := 4) hx hb hts in_Jx35411 hown hK hP 0 rfl rfl 2 (by decide) (hts _ q_251) (fun _ h9 => h9) rfl dJx35411_checkForComodification_da8c8_8 ?_
  refine lv_icmp_eq (tgt := 22) hx hb dJx35411_checkForComodification_da8c8_11 (by decide) (fun _ => ?_) (fun cz => absurd (by decide) cz)
  exact W.vret hx hb hr (fun t9 ht9 hW9 => ⟨⟨(), rfl, trivial, ⟨pq_mk (wc := [(h0, .inr (1, [.int 4, .int 3, .int 7, .ref h1])), (h1, .inr (0, [.int 7, .ref o0, .int 7]))]) (tc := []) hP hD hK [0, 1] [] rfl rfl rfl rfl ht9 hW9, by rw [ht9]; exact Nat.le_trans (Nat.add_le_add_left (Nat.le_of_ble_eq_true rfl) _) hG⟩⟩, hS.F ht9⟩) hS.2.2 dJx35411_checkForComodification_da8c8_22

set_option maxHeartbeats 4000000 in
set_option maxRecDepth 100000 in
theorem k644_next (l : Launch) (hl9 : l.stackTraces = false) (dC : Nat → ClassId) (dI : Nat → Nat → Nat) (z : XZ) (h0 h1 h2 : Nat) (sz : Nat) (kc0 : ClassId) : Met l yJx35411_next_0502b (.code yJx35411_next_0502b cJx35411_next_0502b 3 (some (.object "java/lang/Object")) :: wsL_law) ({ frames := 1, cells := 0, slots := 0, locals := 20 }) (va_Pc [.ref h0] (PC (dC, dI) [(h0, .inr (1, [.int 4, .int 3, .int 7, .ref h1])), (h1, .inr (0, [.int 7, .ref h2, .int 7])), (h2, .inl (kc0, 10, .inr (.inr (.inr (.inr (va_up (va_up (va_up (va_up (va_up (va_up (va_up (fun _ => none) 0 (some (z.2.2.1 128))) 1 (some (z.2.2.1 128))) 2 (some (z.2.2.1 128))) 3 (some (z.2.2.1 128))) 4 (some (z.2.2.1 128))) 5 (some (z.2.2.1 128))) 6 (some (z.2.2.1 128))))))))] [(kc0, .object "java/lang/Object")] sz z)) (va_Qr (fun (_ : Unit) => True) (fun (_ : Unit) (ra : Nat) (t : State) => ra = (z.2.2.1 128) ∧ PG (dC, dI) [(h0, .inr (1, [.int 5, .int 4, .int 7, .ref h1])), (h1, .inr (0, [.int 7, .ref h2, .int 7])), (h2, .inl (kc0, 10, .inr (.inr (.inr (.inr (va_up (va_up (va_up (va_up (va_up (va_up (va_up (fun _ => none) 0 (some (z.2.2.1 128))) 1 (some (z.2.2.1 128))) 2 (some (z.2.2.1 128))) 3 (some (z.2.2.1 128))) 4 (some (z.2.2.1 128))) 5 (some (z.2.2.1 128))) 6 (some (z.2.2.1 128))))))))] [(kc0, .object "java/lang/Object")] (va_A [(h0, .inr (1, [.int 4, .int 3, .int 7, .ref h1])), (h1, .inr (0, [.int 7, .ref h2, .int 7])), (h2, .inl (kc0, 10, .inr (.inr (.inr (.inr (va_up (va_up (va_up (va_up (va_up (va_up (va_up (fun _ => none) 0 (some (z.2.2.1 128))) 1 (some (z.2.2.1 128))) 2 (some (z.2.2.1 128))) 3 (some (z.2.2.1 128))) 4 (some (z.2.2.1 128))) 5 (some (z.2.2.1 128))) 6 (some (z.2.2.1 128))))))))] sz) sz 0 t) (va_A [(h0, .inr (1, [.int 4, .int 3, .int 7, .ref h1])), (h1, .inr (0, [.int 7, .ref h2, .int 7])), (h2, .inl (kc0, 10, .inr (.inr (.inr (.inr (va_up (va_up (va_up (va_up (va_up (va_up (va_up (fun _ => none) 0 (some (z.2.2.1 128))) 1 (some (z.2.2.1 128))) 2 (some (z.2.2.1 128))) 3 (some (z.2.2.1 128))) 4 (some (z.2.2.1 128))) 5 (some (z.2.2.1 128))) 6 (some (z.2.2.1 128))))))))] sz)) 0 0 (va_A [(h0, .inr (1, [.int 4, .int 3, .int 7, .ref h1])), (h1, .inr (0, [.int 7, .ref h2, .int 7])), (h2, .inl (kc0, 10, .inr (.inr (.inr (.inr (va_up (va_up (va_up (va_up (va_up (va_up (va_up (fun _ => none) 0 (some (z.2.2.1 128))) 1 (some (z.2.2.1 128))) 2 (some (z.2.2.1 128))) 3 (some (z.2.2.1 128))) 4 (some (z.2.2.1 128))) 5 (some (z.2.2.1 128))) 6 (some (z.2.2.1 128))))))))] sz) := by
  refine Met.ofW (cc := cJx35411_next_0502b) (maxL := 3) (ret := (some (.object "java/lang/Object"))) (by decide) rfl ?_
  intro p e s m args below meth c s₁ B hml hv
  obtain ⟨rfl, hsz, hP, hK, hD0, hX, hT⟩ := hv
  have hx := B.exec
  have hb := B.bytes
  have hr := B.returns
  have hts0 := atoms_spec (ws := .code yJx35411_next_0502b cJx35411_next_0502b 3 (some (.object "java/lang/Object")) :: wsL_law) B.pre
  have hts := xTail hts0
  have hown : s.vm.findClass RJx35411 = some m.cls := findClass_of_methodNamed B.named
  have hlocks := B.notSynchronized
  subst hsz
  have hD := hD0.self (sz := s.heap.size)
  generalize hAe : va_A [(h0, .inr (1, [.int 4, .int 3, .int 7, .ref h1])), (h1, .inr (0, [.int 7, .ref h2, .int 7])), (h2, .inl (kc0, 10, .inr (.inr (.inr (.inr (va_up (va_up (va_up (va_up (va_up (va_up (va_up (fun _ => none) 0 (some (z.2.2.1 128))) 1 (some (z.2.2.1 128))) 2 (some (z.2.2.1 128))) 3 (some (z.2.2.1 128))) 4 (some (z.2.2.1 128))) 5 (some (z.2.2.1 128))) 6 (some (z.2.2.1 128))))))))] s.heap.size = A at hD hX ⊢
  have hA : ∀ q : Nat, s.heap.size ≤ q → A q := fun q h => by rw [← hAe]; exact Or.inr h
  have hS : va_S A s.heap s.heap [] := va_S.rf
  have hG : s.heap.size + 0 ≤ s.heap.size := Nat.le_refl _
  have hl := lv_entry ([.ref h0]) (n := 3) (Nat.le_of_ble_eq_true rfl)
  rw [lg_entry_eq]
  generalize (lg_sl ([.ref h0]) ++ List.replicate (3 - (lg_sl ([.ref h0])).length) Slot.unset).toArray = ls at hl ⊢
  have hl : lv_has ls 3 [(0, .ref h0)] := hl
  refine lv_aload_n hx hb dJx35411_next_0502b_0 rfl (lv_at hl 0 rfl) ?_
  have hF1 := va_free (wc := [(h0, .inr (1, [.int 4, .int 3, .int 7, .ref h1])), (h1, .inr (0, [.int 7, .ref h2, .int 7]))]) hD hS hA [0, 1] rfl
  refine va_callv (va_runV (As := []) (rest := []) ⟨hx, hb, hml, hown, hts⟩ (k643_checkForComodification l hl9 dC dI z h0 h1 h2 s.heap.size) (cwV 0 hts (gV q_303 q_304 q_305 q_246 q_302) rfl rfl rfl (by decide +kernel) ⟨Nat.le_of_ble_eq_true rfl, Nat.le_of_ble_eq_true rfl⟩) ⟨pc_blind, va_recv hK hP (ci := 1) (q0 := 0) rfl rfl, fun U hU hW => ⟨rfl, pc_mk hP hD hK hS hX hT [0, 1] [] rfl rfl rfl rfl hF1 hU hW⟩⟩ rfl rfl hl.1 rfl (lv_room (Nat.le_of_ble_eq_true rfl)) dJx35411_next_0502b_1 ⟨(Nat.le_of_ble_eq_true rfl), (Nat.le_of_ble_eq_true rfl)⟩) hS (fun q9 _ h9 => hF1 q9 h9) hF1 (fun u3 t3 H3 L3 ht3 hvm3 hw3 hB3 hz3 hk3 hS => ?_)
  obtain ⟨hP, hD, hK⟩ := pq_join (wr := [(h2, .inl (kc0, 10, .inr (.inr (.inr (.inr (va_up (va_up (va_up (va_up (va_up (va_up (va_up (fun _ => none) 0 (some (z.2.2.1 128))) 1 (some (z.2.2.1 128))) 2 (some (z.2.2.1 128))) 3 (some (z.2.2.1 128))) 4 (some (z.2.2.1 128))) 5 (some (z.2.2.1 128))) 6 (some (z.2.2.1 128))))))))]) (tr := [(kc0, .object "java/lang/Object")]) (wz := [(h2, .inl (kc0, 10, .inr (.inr (.inr (.inr (va_up (va_up (va_up (va_up (va_up (va_up (va_up (fun _ => none) 0 (some (z.2.2.1 128))) 1 (some (z.2.2.1 128))) 2 (some (z.2.2.1 128))) 3 (some (z.2.2.1 128))) 4 (some (z.2.2.1 128))) 5 (some (z.2.2.1 128))) 6 (some (z.2.2.1 128)))))))), (h0, .inr (1, [.int 4, .int 3, .int 7, .ref h1])), (h1, .inr (0, [.int 7, .ref h2, .int 7]))]) (tz := [(kc0, .object "java/lang/Object")]) hP hD hK [0, 1] [2] [0] rfl rfl (by decide) (by decide) rfl hk3 hF1 hB3.1 ht3 hvm3 rfl rfl
  have hG : s.heap.size + 0 ≤ H3.size := Nat.le_trans hG hz3
  refine lv_aload_n hx hb dJx35411_next_0502b_4 rfl (lv_at hl 0 rfl) ?_
  refine va_get (D := (dC, dI)) (ci := 1) (v := .int 4) (C := RJx35411) (T := TJx35411) (N := 4) hx hb hts in_Jx35411 hown hK hP 1 rfl rfl 0 (by decide) (hts _ q_259) (fun _ h9 => h9) rfl dJx35411_next_0502b_5 ?_
  refine lv_istore_n (lv' := [(1, .int 4), (0, .ref h0)]) hx hb dJx35411_next_0502b_8 rfl hl (by decide) rfl (fun ls hl => ?_)
  refine lv_iload_n hx hb dJx35411_next_0502b_9 rfl (lv_at hl 0 rfl) ?_
  refine lv_aload_n hx hb dJx35411_next_0502b_10 rfl (lv_at hl 1 rfl) ?_
  refine va_get (D := (dC, dI)) (ci := 1) (v := .ref h1) (C := RJx35411) (T := TJx35411) (N := 4) hx hb hts in_Jx35411 hown hK hP 1 rfl rfl 3 (by decide) (hts _ q_247) (fun _ h9 => h9) rfl dJx35411_next_0502b_11 ?_
  refine va_getN (D := (dC, dI)) (ci := 0) (v := .int 7) (C := RJx4a65c) (T := TJx4a65c) (N := 3) hx hb hts in_Jx4a65c hown hK hP 2 rfl rfl 2 (by decide) (va_Nw.use rfl hT.2.2.2.2.1) (fun _ h9 => h9) rfl dJx35411_next_0502b_14 ?_
  refine lv_icmp_lt (tgt := 28) hx hb dJx35411_next_0502b_17 (by decide) (fun _ => ?_) (fun cz => absurd (by decide) cz)
  refine lv_aload_n hx hb dJx35411_next_0502b_28 rfl (lv_at hl 1 rfl) ?_
  refine va_get (D := (dC, dI)) (ci := 1) (v := .ref h1) (C := RJx35411) (T := TJx35411) (N := 4) hx hb hts in_Jx35411 hown hK hP 1 rfl rfl 3 (by decide) (hts _ q_247) (fun _ h9 => h9) rfl dJx35411_next_0502b_29 ?_
  refine va_get (D := (dC, dI)) (ci := 0) (v := .ref h2) (C := RJx4a65c) (T := TJx4a65c) (N := 3) hx hb hts in_Jx4a65c hown hK hP 2 rfl rfl 1 (by decide) (hts _ q_306) (fun _ h9 => h9) rfl dJx35411_next_0502b_32 ?_
  refine lv_astore_n (lv' := [(2, .ref h2), (1, .int 4), (0, .ref h0)]) hx hb dJx35411_next_0502b_35 rfl hl (by decide) rfl (fun ls hl => ?_)
  refine lv_iload_n hx hb dJx35411_next_0502b_36 rfl (lv_at hl 1 rfl) ?_
  refine lv_aload_n hx hb dJx35411_next_0502b_37 rfl (lv_at hl 0 rfl) ?_
  refine va_alen hx hb hK hP 0 0 rfl rfl (v := 10) rfl dJx35411_next_0502b_38 ?_
  refine lv_icmp_lt (tgt := 50) hx hb dJx35411_next_0502b_39 (by decide) (fun _ => ?_) (fun cz => absurd (by decide) cz)
  refine lv_aload_n hx hb dJx35411_next_0502b_50 rfl (lv_at hl 2 rfl) ?_
  refine lv_iload_n hx hb dJx35411_next_0502b_51 rfl (lv_at hl 1 rfl) ?_
  refine lv_iconst (v := 1) hx hb dJx35411_next_0502b_52 (by decide) ?_
  refine lv_iadd hx hb dJx35411_next_0502b_53 ?_
  refine lv_topi (fun y5 ey5 => ?_)
  obtain rfl : y5 = 5 := ey5.trans (by decide)
  refine va_put (D := (dC, dI)) (ci := 1) (v := .int 5) (ty := .int) (C := RJx35411) (T := TJx35411) (N := 4) hx hb hts in_Jx35411 tyJx35411 tyJx35411_ok nmJx35411 hown hK hP hD (va_Sre hS) 1 rfl rfl 0 (by decide) (hts _ q_259) (fun _ h9 => h9) rfl (by decide +kernel) rfl rfl (Nat.le_of_ble_eq_true rfl) dJx35411_next_0502b_54 (fun H6 _ hP hD hS' => ?_)
  have hG : s.heap.size + 0 ≤ H6.size := Nat.le_trans hG hS'.1
  have hS := va_Str hS hS'
  have hP : va_P (dC, dI) xCl [(h2, .inl (kc0, 10, .inr (.inr (.inr (.inr (va_up (va_up (va_up (va_up (va_up (va_up (va_up (fun _ => none) 0 (some (z.2.2.1 128))) 1 (some (z.2.2.1 128))) 2 (some (z.2.2.1 128))) 3 (some (z.2.2.1 128))) 4 (some (z.2.2.1 128))) 5 (some (z.2.2.1 128))) 6 (some (z.2.2.1 128)))))))), (h0, .inr (1, [.int 5, .int 3, .int 7, .ref h1])), (h1, .inr (0, [.int 7, .ref h2, .int 7]))] H6 := hP
  have hD : va_D A [(h2, .inl (kc0, 10, .inr (.inr (.inr (.inr (va_up (va_up (va_up (va_up (va_up (va_up (va_up (fun _ => none) 0 (some (z.2.2.1 128))) 1 (some (z.2.2.1 128))) 2 (some (z.2.2.1 128))) 3 (some (z.2.2.1 128))) 4 (some (z.2.2.1 128))) 5 (some (z.2.2.1 128))) 6 (some (z.2.2.1 128)))))))), (h0, .inr (1, [.int 5, .int 3, .int 7, .ref h1])), (h1, .inr (0, [.int 7, .ref h2, .int 7]))] := hD
  refine lv_aload_n hx hb dJx35411_next_0502b_57 rfl (lv_at hl 0 rfl) ?_
  refine lv_aload_n hx hb dJx35411_next_0502b_58 rfl (lv_at hl 2 rfl) ?_
  refine lv_iload_n hx hb dJx35411_next_0502b_59 rfl (lv_at hl 1 rfl) ?_
  refine lv_dup_x1 hx hb dJx35411_next_0502b_60 rfl rfl ?_
  refine va_put (D := (dC, dI)) (ci := 1) (v := .int 4) (ty := .int) (C := RJx35411) (T := TJx35411) (N := 4) hx hb hts in_Jx35411 tyJx35411 tyJx35411_ok nmJx35411 hown hK hP hD (va_Sre hS) 1 rfl rfl 1 (by decide) (hts _ q_249) (fun _ h9 => h9) rfl (by decide +kernel) rfl rfl (Nat.le_of_ble_eq_true rfl) dJx35411_next_0502b_61 (fun H7 _ hP hD hS' => ?_)
  have hG : s.heap.size + 0 ≤ H7.size := Nat.le_trans hG hS'.1
  have hS := va_Str hS hS'
  have hP : va_P (dC, dI) xCl [(h2, .inl (kc0, 10, .inr (.inr (.inr (.inr (va_up (va_up (va_up (va_up (va_up (va_up (va_up (fun _ => none) 0 (some (z.2.2.1 128))) 1 (some (z.2.2.1 128))) 2 (some (z.2.2.1 128))) 3 (some (z.2.2.1 128))) 4 (some (z.2.2.1 128))) 5 (some (z.2.2.1 128))) 6 (some (z.2.2.1 128)))))))), (h0, .inr (1, [.int 5, .int 4, .int 7, .ref h1])), (h1, .inr (0, [.int 7, .ref h2, .int 7]))] H7 := hP
  have hD : va_D A [(h2, .inl (kc0, 10, .inr (.inr (.inr (.inr (va_up (va_up (va_up (va_up (va_up (va_up (va_up (fun _ => none) 0 (some (z.2.2.1 128))) 1 (some (z.2.2.1 128))) 2 (some (z.2.2.1 128))) 3 (some (z.2.2.1 128))) 4 (some (z.2.2.1 128))) 5 (some (z.2.2.1 128))) 6 (some (z.2.2.1 128)))))))), (h0, .inr (1, [.int 5, .int 4, .int 7, .ref h1])), (h1, .inr (0, [.int 7, .ref h2, .int 7]))] := hD
  refine va_aldq hx hb hK hP 0 0 rfl rfl (i := 4) (by unfold vp_in; decide) dJx35411_next_0502b_64 ?_
  refine W.eq (g2 := F0 m 65 ls [.ref (z.2.2.1 128)]) rfl ?_
  exact W.aret (v := .ref (z.2.2.1 128)) hx hb hr (by first | exact Or.inl ⟨_, rfl⟩ | exact Or.inr ⟨_, rfl⟩) (Or.inr ⟨_, rfl⟩) (fun t9 ht9 hW9 => ⟨⟨(), (z.2.2.1 128), rfl, trivial, ⟨rfl, ⟨pq_mk (wc := [(h0, .inr (1, [.int 5, .int 4, .int 7, .ref h1])), (h1, .inr (0, [.int 7, .ref h2, .int 7])), (h2, .inl (kc0, 10, .inr (.inr (.inr (.inr (va_up (va_up (va_up (va_up (va_up (va_up (va_up (fun _ => none) 0 (some (z.2.2.1 128))) 1 (some (z.2.2.1 128))) 2 (some (z.2.2.1 128))) 3 (some (z.2.2.1 128))) 4 (some (z.2.2.1 128))) 5 (some (z.2.2.1 128))) 6 (some (z.2.2.1 128))))))))]) (tc := [(kc0, .object "java/lang/Object")]) hP hD hK [1, 2, 0] [0] rfl rfl rfl rfl ht9 hW9, by rw [ht9]; exact Nat.le_trans (Nat.add_le_add_left (Nat.le_of_ble_eq_true rfl) _) hG⟩⟩⟩, hS.F ht9⟩) hS.2.2 dJx35411_next_0502b_65

set_option maxHeartbeats 4000000 in
set_option maxRecDepth 100000 in
theorem k645_hasNext (l : Launch) (hl9 : l.stackTraces = false) (dC : Nat → ClassId) (dI : Nat → Nat → Nat) (z : XZ) (h0 h1 : Nat) (o0 : Nat) (sz : Nat) : Met l yJx35411_hasNext_aae02 (.code yJx35411_hasNext_aae02 cJx35411_hasNext_aae02 1 (some .boolean) :: wsL_law) ({ frames := 0, cells := 0, slots := 0, locals := 0 }) (va_Pc [.ref h0] (PC (dC, dI) [(h0, .inr (1, [.int 5, .int 4, .int 7, .ref h1])), (h1, .inr (0, [.int 7, .ref o0, .int 7]))] [] sz z)) (va_Qi (fun (r : Int32) (_ : Unit) => r = 1) (fun (_ : Unit) (t : State) => PG (dC, dI) [(h0, .inr (1, [.int 5, .int 4, .int 7, .ref h1])), (h1, .inr (0, [.int 7, .ref o0, .int 7]))] [] (va_A [(h0, .inr (1, [.int 5, .int 4, .int 7, .ref h1])), (h1, .inr (0, [.int 7, .ref o0, .int 7]))] sz) sz 0 t) (va_A [(h0, .inr (1, [.int 5, .int 4, .int 7, .ref h1])), (h1, .inr (0, [.int 7, .ref o0, .int 7]))] sz)) 0 0 (va_A [(h0, .inr (1, [.int 5, .int 4, .int 7, .ref h1])), (h1, .inr (0, [.int 7, .ref o0, .int 7]))] sz) := by
  refine Met.ofW (cc := cJx35411_hasNext_aae02) (maxL := 1) (ret := (some .boolean)) (by decide) rfl ?_
  intro p e s m args below meth c s₁ B hml hv
  obtain ⟨rfl, hsz, hP, hK, hD0, hX, hT⟩ := hv
  have hx := B.exec
  have hb := B.bytes
  have hr := B.returns
  have hts0 := atoms_spec (ws := .code yJx35411_hasNext_aae02 cJx35411_hasNext_aae02 1 (some .boolean) :: wsL_law) B.pre
  have hts := xTail hts0
  have hown : s.vm.findClass RJx35411 = some m.cls := findClass_of_methodNamed B.named
  have hlocks := B.notSynchronized
  subst hsz
  have hD := hD0.self (sz := s.heap.size)
  generalize hAe : va_A [(h0, .inr (1, [.int 5, .int 4, .int 7, .ref h1])), (h1, .inr (0, [.int 7, .ref o0, .int 7]))] s.heap.size = A at hD hX ⊢
  have hA : ∀ q : Nat, s.heap.size ≤ q → A q := fun q h => by rw [← hAe]; exact Or.inr h
  have hS : va_S A s.heap s.heap [] := va_S.rf
  have hG : s.heap.size + 0 ≤ s.heap.size := Nat.le_refl _
  have hl := lv_entry ([.ref h0]) (n := 1) (Nat.le_of_ble_eq_true rfl)
  rw [lg_entry_eq]
  generalize (lg_sl ([.ref h0]) ++ List.replicate (1 - (lg_sl ([.ref h0])).length) Slot.unset).toArray = ls at hl ⊢
  have hl : lv_has ls 1 [(0, .ref h0)] := hl
  refine lv_aload_n hx hb dJx35411_hasNext_aae02_0 rfl (lv_at hl 0 rfl) ?_
  refine va_get (D := (dC, dI)) (ci := 1) (v := .int 5) (C := RJx35411) (T := TJx35411) (N := 4) hx hb hts in_Jx35411 hown hK hP 0 rfl rfl 0 (by decide) (hts _ q_259) (fun _ h9 => h9) rfl dJx35411_hasNext_aae02_1 ?_
  refine lv_aload_n hx hb dJx35411_hasNext_aae02_4 rfl (lv_at hl 0 rfl) ?_
  refine va_get (D := (dC, dI)) (ci := 1) (v := .ref h1) (C := RJx35411) (T := TJx35411) (N := 4) hx hb hts in_Jx35411 hown hK hP 0 rfl rfl 3 (by decide) (hts _ q_247) (fun _ h9 => h9) rfl dJx35411_hasNext_aae02_5 ?_
  refine va_getN (D := (dC, dI)) (ci := 0) (v := .int 7) (C := RJx4a65c) (T := TJx4a65c) (N := 3) hx hb hts in_Jx4a65c hown hK hP 1 rfl rfl 2 (by decide) (va_Nw.use rfl hT.2.2.2.2.1) (fun _ h9 => h9) rfl dJx35411_hasNext_aae02_8 ?_
  refine lv_icmp_eq (tgt := 18) hx hb dJx35411_hasNext_aae02_11 (by decide) (fun cz => absurd cz (by decide)) (fun _ => ?_)
  refine lv_iconst (v := 1) hx hb dJx35411_hasNext_aae02_14 (by decide) ?_
  refine lv_goto (tgt := 19) hx hb dJx35411_hasNext_aae02_15 (by decide) ?_
  exact W.zret (v := 1) (ty := .boolean) hx hb hr rfl (fun t9 ht9 hW9 => ⟨⟨1, (), rfl, rfl, ⟨pq_mk (wc := [(h0, .inr (1, [.int 5, .int 4, .int 7, .ref h1])), (h1, .inr (0, [.int 7, .ref o0, .int 7]))]) (tc := []) hP hD hK [0, 1] [] rfl rfl rfl rfl ht9 hW9, by rw [ht9]; exact Nat.le_trans (Nat.add_le_add_left (Nat.le_of_ble_eq_true rfl) _) hG⟩⟩, hS.F ht9⟩) hS.2.2 dJx35411_hasNext_aae02_19

set_option maxHeartbeats 4000000 in
set_option maxRecDepth 100000 in
theorem k646_checkForComodification (l : Launch) (hl9 : l.stackTraces = false) (dC : Nat → ClassId) (dI : Nat → Nat → Nat) (z : XZ) (h0 h1 : Nat) (o0 : Nat) (sz : Nat) : Met l yJx35411_checkForComodification_da8c8 (.code yJx35411_checkForComodification_da8c8 cJx35411_checkForComodification_da8c8 1 none :: wsL_law) ({ frames := 0, cells := 0, slots := 0, locals := 0 }) (va_Pc [.ref h0] (PC (dC, dI) [(h0, .inr (1, [.int 5, .int 4, .int 7, .ref h1])), (h1, .inr (0, [.int 7, .ref o0, .int 7]))] [] sz z)) (va_Qv (fun (_ : Unit) => True) (fun (_ : Unit) (t : State) => PG (dC, dI) [(h0, .inr (1, [.int 5, .int 4, .int 7, .ref h1])), (h1, .inr (0, [.int 7, .ref o0, .int 7]))] [] (va_A [(h0, .inr (1, [.int 5, .int 4, .int 7, .ref h1])), (h1, .inr (0, [.int 7, .ref o0, .int 7]))] sz) sz 0 t) (va_A [(h0, .inr (1, [.int 5, .int 4, .int 7, .ref h1])), (h1, .inr (0, [.int 7, .ref o0, .int 7]))] sz)) 0 0 (va_A [(h0, .inr (1, [.int 5, .int 4, .int 7, .ref h1])), (h1, .inr (0, [.int 7, .ref o0, .int 7]))] sz) := by
  refine Met.ofW (cc := cJx35411_checkForComodification_da8c8) (maxL := 1) (ret := none) (by decide) rfl ?_
  intro p e s m args below meth c s₁ B hml hv
  obtain ⟨rfl, hsz, hP, hK, hD0, hX, hT⟩ := hv
  have hx := B.exec
  have hb := B.bytes
  have hr := B.returns
  have hts0 := atoms_spec (ws := .code yJx35411_checkForComodification_da8c8 cJx35411_checkForComodification_da8c8 1 none :: wsL_law) B.pre
  have hts := xTail hts0
  have hown : s.vm.findClass RJx35411 = some m.cls := findClass_of_methodNamed B.named
  have hlocks := B.notSynchronized
  subst hsz
  have hD := hD0.self (sz := s.heap.size)
  generalize hAe : va_A [(h0, .inr (1, [.int 5, .int 4, .int 7, .ref h1])), (h1, .inr (0, [.int 7, .ref o0, .int 7]))] s.heap.size = A at hD hX ⊢
  have hA : ∀ q : Nat, s.heap.size ≤ q → A q := fun q h => by rw [← hAe]; exact Or.inr h
  have hS : va_S A s.heap s.heap [] := va_S.rf
  have hG : s.heap.size + 0 ≤ s.heap.size := Nat.le_refl _
  have hl := lv_entry ([.ref h0]) (n := 1) (Nat.le_of_ble_eq_true rfl)
  rw [lg_entry_eq]
  generalize (lg_sl ([.ref h0]) ++ List.replicate (1 - (lg_sl ([.ref h0])).length) Slot.unset).toArray = ls at hl ⊢
  have hl : lv_has ls 1 [(0, .ref h0)] := hl
  refine lv_aload_n hx hb dJx35411_checkForComodification_da8c8_0 rfl (lv_at hl 0 rfl) ?_
  refine va_get (D := (dC, dI)) (ci := 1) (v := .ref h1) (C := RJx35411) (T := TJx35411) (N := 4) hx hb hts in_Jx35411 hown hK hP 0 rfl rfl 3 (by decide) (hts _ q_247) (fun _ h9 => h9) rfl dJx35411_checkForComodification_da8c8_1 ?_
  refine va_get (D := (dC, dI)) (ci := 0) (v := .int 7) (C := RJx4a65c) (T := TJx4a65c) (N := 3) hx hb hts in_Jx4a65c hown hK hP 1 rfl rfl 0 (by decide) (hts _ q_250) (u_same (hts _ q_107)) rfl dJx35411_checkForComodification_da8c8_4 ?_
  refine lv_aload_n hx hb dJx35411_checkForComodification_da8c8_7 rfl (lv_at hl 0 rfl) ?_
  refine va_get (D := (dC, dI)) (ci := 1) (v := .int 7) (C := RJx35411) (T := TJx35411) (N := 4) hx hb hts in_Jx35411 hown hK hP 0 rfl rfl 2 (by decide) (hts _ q_251) (fun _ h9 => h9) rfl dJx35411_checkForComodification_da8c8_8 ?_
  refine lv_icmp_eq (tgt := 22) hx hb dJx35411_checkForComodification_da8c8_11 (by decide) (fun _ => ?_) (fun cz => absurd (by decide) cz)
  exact W.vret hx hb hr (fun t9 ht9 hW9 => ⟨⟨(), rfl, trivial, ⟨pq_mk (wc := [(h0, .inr (1, [.int 5, .int 4, .int 7, .ref h1])), (h1, .inr (0, [.int 7, .ref o0, .int 7]))]) (tc := []) hP hD hK [0, 1] [] rfl rfl rfl rfl ht9 hW9, by rw [ht9]; exact Nat.le_trans (Nat.add_le_add_left (Nat.le_of_ble_eq_true rfl) _) hG⟩⟩, hS.F ht9⟩) hS.2.2 dJx35411_checkForComodification_da8c8_22

set_option maxHeartbeats 4000000 in
set_option maxRecDepth 100000 in
theorem k647_next (l : Launch) (hl9 : l.stackTraces = false) (dC : Nat → ClassId) (dI : Nat → Nat → Nat) (z : XZ) (h0 h1 h2 : Nat) (sz : Nat) (kc0 : ClassId) : Met l yJx35411_next_0502b (.code yJx35411_next_0502b cJx35411_next_0502b 3 (some (.object "java/lang/Object")) :: wsL_law) ({ frames := 1, cells := 0, slots := 0, locals := 20 }) (va_Pc [.ref h0] (PC (dC, dI) [(h0, .inr (1, [.int 5, .int 4, .int 7, .ref h1])), (h1, .inr (0, [.int 7, .ref h2, .int 7])), (h2, .inl (kc0, 10, .inr (.inr (.inr (.inr (va_up (va_up (va_up (va_up (va_up (va_up (va_up (fun _ => none) 0 (some (z.2.2.1 128))) 1 (some (z.2.2.1 128))) 2 (some (z.2.2.1 128))) 3 (some (z.2.2.1 128))) 4 (some (z.2.2.1 128))) 5 (some (z.2.2.1 128))) 6 (some (z.2.2.1 128))))))))] [(kc0, .object "java/lang/Object")] sz z)) (va_Qr (fun (_ : Unit) => True) (fun (_ : Unit) (ra : Nat) (t : State) => ra = (z.2.2.1 128) ∧ PG (dC, dI) [(h0, .inr (1, [.int 6, .int 5, .int 7, .ref h1])), (h1, .inr (0, [.int 7, .ref h2, .int 7])), (h2, .inl (kc0, 10, .inr (.inr (.inr (.inr (va_up (va_up (va_up (va_up (va_up (va_up (va_up (fun _ => none) 0 (some (z.2.2.1 128))) 1 (some (z.2.2.1 128))) 2 (some (z.2.2.1 128))) 3 (some (z.2.2.1 128))) 4 (some (z.2.2.1 128))) 5 (some (z.2.2.1 128))) 6 (some (z.2.2.1 128))))))))] [(kc0, .object "java/lang/Object")] (va_A [(h0, .inr (1, [.int 5, .int 4, .int 7, .ref h1])), (h1, .inr (0, [.int 7, .ref h2, .int 7])), (h2, .inl (kc0, 10, .inr (.inr (.inr (.inr (va_up (va_up (va_up (va_up (va_up (va_up (va_up (fun _ => none) 0 (some (z.2.2.1 128))) 1 (some (z.2.2.1 128))) 2 (some (z.2.2.1 128))) 3 (some (z.2.2.1 128))) 4 (some (z.2.2.1 128))) 5 (some (z.2.2.1 128))) 6 (some (z.2.2.1 128))))))))] sz) sz 0 t) (va_A [(h0, .inr (1, [.int 5, .int 4, .int 7, .ref h1])), (h1, .inr (0, [.int 7, .ref h2, .int 7])), (h2, .inl (kc0, 10, .inr (.inr (.inr (.inr (va_up (va_up (va_up (va_up (va_up (va_up (va_up (fun _ => none) 0 (some (z.2.2.1 128))) 1 (some (z.2.2.1 128))) 2 (some (z.2.2.1 128))) 3 (some (z.2.2.1 128))) 4 (some (z.2.2.1 128))) 5 (some (z.2.2.1 128))) 6 (some (z.2.2.1 128))))))))] sz)) 0 0 (va_A [(h0, .inr (1, [.int 5, .int 4, .int 7, .ref h1])), (h1, .inr (0, [.int 7, .ref h2, .int 7])), (h2, .inl (kc0, 10, .inr (.inr (.inr (.inr (va_up (va_up (va_up (va_up (va_up (va_up (va_up (fun _ => none) 0 (some (z.2.2.1 128))) 1 (some (z.2.2.1 128))) 2 (some (z.2.2.1 128))) 3 (some (z.2.2.1 128))) 4 (some (z.2.2.1 128))) 5 (some (z.2.2.1 128))) 6 (some (z.2.2.1 128))))))))] sz) := by
  refine Met.ofW (cc := cJx35411_next_0502b) (maxL := 3) (ret := (some (.object "java/lang/Object"))) (by decide) rfl ?_
  intro p e s m args below meth c s₁ B hml hv
  obtain ⟨rfl, hsz, hP, hK, hD0, hX, hT⟩ := hv
  have hx := B.exec
  have hb := B.bytes
  have hr := B.returns
  have hts0 := atoms_spec (ws := .code yJx35411_next_0502b cJx35411_next_0502b 3 (some (.object "java/lang/Object")) :: wsL_law) B.pre
  have hts := xTail hts0
  have hown : s.vm.findClass RJx35411 = some m.cls := findClass_of_methodNamed B.named
  have hlocks := B.notSynchronized
  subst hsz
  have hD := hD0.self (sz := s.heap.size)
  generalize hAe : va_A [(h0, .inr (1, [.int 5, .int 4, .int 7, .ref h1])), (h1, .inr (0, [.int 7, .ref h2, .int 7])), (h2, .inl (kc0, 10, .inr (.inr (.inr (.inr (va_up (va_up (va_up (va_up (va_up (va_up (va_up (fun _ => none) 0 (some (z.2.2.1 128))) 1 (some (z.2.2.1 128))) 2 (some (z.2.2.1 128))) 3 (some (z.2.2.1 128))) 4 (some (z.2.2.1 128))) 5 (some (z.2.2.1 128))) 6 (some (z.2.2.1 128))))))))] s.heap.size = A at hD hX ⊢
  have hA : ∀ q : Nat, s.heap.size ≤ q → A q := fun q h => by rw [← hAe]; exact Or.inr h
  have hS : va_S A s.heap s.heap [] := va_S.rf
  have hG : s.heap.size + 0 ≤ s.heap.size := Nat.le_refl _
  have hl := lv_entry ([.ref h0]) (n := 3) (Nat.le_of_ble_eq_true rfl)
  rw [lg_entry_eq]
  generalize (lg_sl ([.ref h0]) ++ List.replicate (3 - (lg_sl ([.ref h0])).length) Slot.unset).toArray = ls at hl ⊢
  have hl : lv_has ls 3 [(0, .ref h0)] := hl
  refine lv_aload_n hx hb dJx35411_next_0502b_0 rfl (lv_at hl 0 rfl) ?_
  have hF1 := va_free (wc := [(h0, .inr (1, [.int 5, .int 4, .int 7, .ref h1])), (h1, .inr (0, [.int 7, .ref h2, .int 7]))]) hD hS hA [0, 1] rfl
  refine va_callv (va_runV (As := []) (rest := []) ⟨hx, hb, hml, hown, hts⟩ (k646_checkForComodification l hl9 dC dI z h0 h1 h2 s.heap.size) (cwV 0 hts (gV q_303 q_304 q_305 q_246 q_302) rfl rfl rfl (by decide +kernel) ⟨Nat.le_of_ble_eq_true rfl, Nat.le_of_ble_eq_true rfl⟩) ⟨pc_blind, va_recv hK hP (ci := 1) (q0 := 0) rfl rfl, fun U hU hW => ⟨rfl, pc_mk hP hD hK hS hX hT [0, 1] [] rfl rfl rfl rfl hF1 hU hW⟩⟩ rfl rfl hl.1 rfl (lv_room (Nat.le_of_ble_eq_true rfl)) dJx35411_next_0502b_1 ⟨(Nat.le_of_ble_eq_true rfl), (Nat.le_of_ble_eq_true rfl)⟩) hS (fun q9 _ h9 => hF1 q9 h9) hF1 (fun u3 t3 H3 L3 ht3 hvm3 hw3 hB3 hz3 hk3 hS => ?_)
  obtain ⟨hP, hD, hK⟩ := pq_join (wr := [(h2, .inl (kc0, 10, .inr (.inr (.inr (.inr (va_up (va_up (va_up (va_up (va_up (va_up (va_up (fun _ => none) 0 (some (z.2.2.1 128))) 1 (some (z.2.2.1 128))) 2 (some (z.2.2.1 128))) 3 (some (z.2.2.1 128))) 4 (some (z.2.2.1 128))) 5 (some (z.2.2.1 128))) 6 (some (z.2.2.1 128))))))))]) (tr := [(kc0, .object "java/lang/Object")]) (wz := [(h2, .inl (kc0, 10, .inr (.inr (.inr (.inr (va_up (va_up (va_up (va_up (va_up (va_up (va_up (fun _ => none) 0 (some (z.2.2.1 128))) 1 (some (z.2.2.1 128))) 2 (some (z.2.2.1 128))) 3 (some (z.2.2.1 128))) 4 (some (z.2.2.1 128))) 5 (some (z.2.2.1 128))) 6 (some (z.2.2.1 128)))))))), (h0, .inr (1, [.int 5, .int 4, .int 7, .ref h1])), (h1, .inr (0, [.int 7, .ref h2, .int 7]))]) (tz := [(kc0, .object "java/lang/Object")]) hP hD hK [0, 1] [2] [0] rfl rfl (by decide) (by decide) rfl hk3 hF1 hB3.1 ht3 hvm3 rfl rfl
  have hG : s.heap.size + 0 ≤ H3.size := Nat.le_trans hG hz3
  refine lv_aload_n hx hb dJx35411_next_0502b_4 rfl (lv_at hl 0 rfl) ?_
  refine va_get (D := (dC, dI)) (ci := 1) (v := .int 5) (C := RJx35411) (T := TJx35411) (N := 4) hx hb hts in_Jx35411 hown hK hP 1 rfl rfl 0 (by decide) (hts _ q_259) (fun _ h9 => h9) rfl dJx35411_next_0502b_5 ?_
  refine lv_istore_n (lv' := [(1, .int 5), (0, .ref h0)]) hx hb dJx35411_next_0502b_8 rfl hl (by decide) rfl (fun ls hl => ?_)
  refine lv_iload_n hx hb dJx35411_next_0502b_9 rfl (lv_at hl 0 rfl) ?_
  refine lv_aload_n hx hb dJx35411_next_0502b_10 rfl (lv_at hl 1 rfl) ?_
  refine va_get (D := (dC, dI)) (ci := 1) (v := .ref h1) (C := RJx35411) (T := TJx35411) (N := 4) hx hb hts in_Jx35411 hown hK hP 1 rfl rfl 3 (by decide) (hts _ q_247) (fun _ h9 => h9) rfl dJx35411_next_0502b_11 ?_
  refine va_getN (D := (dC, dI)) (ci := 0) (v := .int 7) (C := RJx4a65c) (T := TJx4a65c) (N := 3) hx hb hts in_Jx4a65c hown hK hP 2 rfl rfl 2 (by decide) (va_Nw.use rfl hT.2.2.2.2.1) (fun _ h9 => h9) rfl dJx35411_next_0502b_14 ?_
  refine lv_icmp_lt (tgt := 28) hx hb dJx35411_next_0502b_17 (by decide) (fun _ => ?_) (fun cz => absurd (by decide) cz)
  refine lv_aload_n hx hb dJx35411_next_0502b_28 rfl (lv_at hl 1 rfl) ?_
  refine va_get (D := (dC, dI)) (ci := 1) (v := .ref h1) (C := RJx35411) (T := TJx35411) (N := 4) hx hb hts in_Jx35411 hown hK hP 1 rfl rfl 3 (by decide) (hts _ q_247) (fun _ h9 => h9) rfl dJx35411_next_0502b_29 ?_
  refine va_get (D := (dC, dI)) (ci := 0) (v := .ref h2) (C := RJx4a65c) (T := TJx4a65c) (N := 3) hx hb hts in_Jx4a65c hown hK hP 2 rfl rfl 1 (by decide) (hts _ q_306) (fun _ h9 => h9) rfl dJx35411_next_0502b_32 ?_
  refine lv_astore_n (lv' := [(2, .ref h2), (1, .int 5), (0, .ref h0)]) hx hb dJx35411_next_0502b_35 rfl hl (by decide) rfl (fun ls hl => ?_)
  refine lv_iload_n hx hb dJx35411_next_0502b_36 rfl (lv_at hl 1 rfl) ?_
  refine lv_aload_n hx hb dJx35411_next_0502b_37 rfl (lv_at hl 0 rfl) ?_
  refine va_alen hx hb hK hP 0 0 rfl rfl (v := 10) rfl dJx35411_next_0502b_38 ?_
  refine lv_icmp_lt (tgt := 50) hx hb dJx35411_next_0502b_39 (by decide) (fun _ => ?_) (fun cz => absurd (by decide) cz)
  refine lv_aload_n hx hb dJx35411_next_0502b_50 rfl (lv_at hl 2 rfl) ?_
  refine lv_iload_n hx hb dJx35411_next_0502b_51 rfl (lv_at hl 1 rfl) ?_
  refine lv_iconst (v := 1) hx hb dJx35411_next_0502b_52 (by decide) ?_
  refine lv_iadd hx hb dJx35411_next_0502b_53 ?_
  refine lv_topi (fun y5 ey5 => ?_)
  obtain rfl : y5 = 6 := ey5.trans (by decide)
  refine va_put (D := (dC, dI)) (ci := 1) (v := .int 6) (ty := .int) (C := RJx35411) (T := TJx35411) (N := 4) hx hb hts in_Jx35411 tyJx35411 tyJx35411_ok nmJx35411 hown hK hP hD (va_Sre hS) 1 rfl rfl 0 (by decide) (hts _ q_259) (fun _ h9 => h9) rfl (by decide +kernel) rfl rfl (Nat.le_of_ble_eq_true rfl) dJx35411_next_0502b_54 (fun H6 _ hP hD hS' => ?_)
  have hG : s.heap.size + 0 ≤ H6.size := Nat.le_trans hG hS'.1
  have hS := va_Str hS hS'
  have hP : va_P (dC, dI) xCl [(h2, .inl (kc0, 10, .inr (.inr (.inr (.inr (va_up (va_up (va_up (va_up (va_up (va_up (va_up (fun _ => none) 0 (some (z.2.2.1 128))) 1 (some (z.2.2.1 128))) 2 (some (z.2.2.1 128))) 3 (some (z.2.2.1 128))) 4 (some (z.2.2.1 128))) 5 (some (z.2.2.1 128))) 6 (some (z.2.2.1 128)))))))), (h0, .inr (1, [.int 6, .int 4, .int 7, .ref h1])), (h1, .inr (0, [.int 7, .ref h2, .int 7]))] H6 := hP
  have hD : va_D A [(h2, .inl (kc0, 10, .inr (.inr (.inr (.inr (va_up (va_up (va_up (va_up (va_up (va_up (va_up (fun _ => none) 0 (some (z.2.2.1 128))) 1 (some (z.2.2.1 128))) 2 (some (z.2.2.1 128))) 3 (some (z.2.2.1 128))) 4 (some (z.2.2.1 128))) 5 (some (z.2.2.1 128))) 6 (some (z.2.2.1 128)))))))), (h0, .inr (1, [.int 6, .int 4, .int 7, .ref h1])), (h1, .inr (0, [.int 7, .ref h2, .int 7]))] := hD
  refine lv_aload_n hx hb dJx35411_next_0502b_57 rfl (lv_at hl 0 rfl) ?_
  refine lv_aload_n hx hb dJx35411_next_0502b_58 rfl (lv_at hl 2 rfl) ?_
  refine lv_iload_n hx hb dJx35411_next_0502b_59 rfl (lv_at hl 1 rfl) ?_
  refine lv_dup_x1 hx hb dJx35411_next_0502b_60 rfl rfl ?_
  refine va_put (D := (dC, dI)) (ci := 1) (v := .int 5) (ty := .int) (C := RJx35411) (T := TJx35411) (N := 4) hx hb hts in_Jx35411 tyJx35411 tyJx35411_ok nmJx35411 hown hK hP hD (va_Sre hS) 1 rfl rfl 1 (by decide) (hts _ q_249) (fun _ h9 => h9) rfl (by decide +kernel) rfl rfl (Nat.le_of_ble_eq_true rfl) dJx35411_next_0502b_61 (fun H7 _ hP hD hS' => ?_)
  have hG : s.heap.size + 0 ≤ H7.size := Nat.le_trans hG hS'.1
  have hS := va_Str hS hS'
  have hP : va_P (dC, dI) xCl [(h2, .inl (kc0, 10, .inr (.inr (.inr (.inr (va_up (va_up (va_up (va_up (va_up (va_up (va_up (fun _ => none) 0 (some (z.2.2.1 128))) 1 (some (z.2.2.1 128))) 2 (some (z.2.2.1 128))) 3 (some (z.2.2.1 128))) 4 (some (z.2.2.1 128))) 5 (some (z.2.2.1 128))) 6 (some (z.2.2.1 128)))))))), (h0, .inr (1, [.int 6, .int 5, .int 7, .ref h1])), (h1, .inr (0, [.int 7, .ref h2, .int 7]))] H7 := hP
  have hD : va_D A [(h2, .inl (kc0, 10, .inr (.inr (.inr (.inr (va_up (va_up (va_up (va_up (va_up (va_up (va_up (fun _ => none) 0 (some (z.2.2.1 128))) 1 (some (z.2.2.1 128))) 2 (some (z.2.2.1 128))) 3 (some (z.2.2.1 128))) 4 (some (z.2.2.1 128))) 5 (some (z.2.2.1 128))) 6 (some (z.2.2.1 128)))))))), (h0, .inr (1, [.int 6, .int 5, .int 7, .ref h1])), (h1, .inr (0, [.int 7, .ref h2, .int 7]))] := hD
  refine va_aldq hx hb hK hP 0 0 rfl rfl (i := 5) (by unfold vp_in; decide) dJx35411_next_0502b_64 ?_
  refine W.eq (g2 := F0 m 65 ls [.ref (z.2.2.1 128)]) rfl ?_
  exact W.aret (v := .ref (z.2.2.1 128)) hx hb hr (by first | exact Or.inl ⟨_, rfl⟩ | exact Or.inr ⟨_, rfl⟩) (Or.inr ⟨_, rfl⟩) (fun t9 ht9 hW9 => ⟨⟨(), (z.2.2.1 128), rfl, trivial, ⟨rfl, ⟨pq_mk (wc := [(h0, .inr (1, [.int 6, .int 5, .int 7, .ref h1])), (h1, .inr (0, [.int 7, .ref h2, .int 7])), (h2, .inl (kc0, 10, .inr (.inr (.inr (.inr (va_up (va_up (va_up (va_up (va_up (va_up (va_up (fun _ => none) 0 (some (z.2.2.1 128))) 1 (some (z.2.2.1 128))) 2 (some (z.2.2.1 128))) 3 (some (z.2.2.1 128))) 4 (some (z.2.2.1 128))) 5 (some (z.2.2.1 128))) 6 (some (z.2.2.1 128))))))))]) (tc := [(kc0, .object "java/lang/Object")]) hP hD hK [1, 2, 0] [0] rfl rfl rfl rfl ht9 hW9, by rw [ht9]; exact Nat.le_trans (Nat.add_le_add_left (Nat.le_of_ble_eq_true rfl) _) hG⟩⟩⟩, hS.F ht9⟩) hS.2.2 dJx35411_next_0502b_65

set_option maxHeartbeats 4000000 in
set_option maxRecDepth 100000 in
theorem k648_hasNext (l : Launch) (hl9 : l.stackTraces = false) (dC : Nat → ClassId) (dI : Nat → Nat → Nat) (z : XZ) (h0 h1 : Nat) (o0 : Nat) (sz : Nat) : Met l yJx35411_hasNext_aae02 (.code yJx35411_hasNext_aae02 cJx35411_hasNext_aae02 1 (some .boolean) :: wsL_law) ({ frames := 0, cells := 0, slots := 0, locals := 0 }) (va_Pc [.ref h0] (PC (dC, dI) [(h0, .inr (1, [.int 6, .int 5, .int 7, .ref h1])), (h1, .inr (0, [.int 7, .ref o0, .int 7]))] [] sz z)) (va_Qi (fun (r : Int32) (_ : Unit) => r = 1) (fun (_ : Unit) (t : State) => PG (dC, dI) [(h0, .inr (1, [.int 6, .int 5, .int 7, .ref h1])), (h1, .inr (0, [.int 7, .ref o0, .int 7]))] [] (va_A [(h0, .inr (1, [.int 6, .int 5, .int 7, .ref h1])), (h1, .inr (0, [.int 7, .ref o0, .int 7]))] sz) sz 0 t) (va_A [(h0, .inr (1, [.int 6, .int 5, .int 7, .ref h1])), (h1, .inr (0, [.int 7, .ref o0, .int 7]))] sz)) 0 0 (va_A [(h0, .inr (1, [.int 6, .int 5, .int 7, .ref h1])), (h1, .inr (0, [.int 7, .ref o0, .int 7]))] sz) := by
  refine Met.ofW (cc := cJx35411_hasNext_aae02) (maxL := 1) (ret := (some .boolean)) (by decide) rfl ?_
  intro p e s m args below meth c s₁ B hml hv
  obtain ⟨rfl, hsz, hP, hK, hD0, hX, hT⟩ := hv
  have hx := B.exec
  have hb := B.bytes
  have hr := B.returns
  have hts0 := atoms_spec (ws := .code yJx35411_hasNext_aae02 cJx35411_hasNext_aae02 1 (some .boolean) :: wsL_law) B.pre
  have hts := xTail hts0
  have hown : s.vm.findClass RJx35411 = some m.cls := findClass_of_methodNamed B.named
  have hlocks := B.notSynchronized
  subst hsz
  have hD := hD0.self (sz := s.heap.size)
  generalize hAe : va_A [(h0, .inr (1, [.int 6, .int 5, .int 7, .ref h1])), (h1, .inr (0, [.int 7, .ref o0, .int 7]))] s.heap.size = A at hD hX ⊢
  have hA : ∀ q : Nat, s.heap.size ≤ q → A q := fun q h => by rw [← hAe]; exact Or.inr h
  have hS : va_S A s.heap s.heap [] := va_S.rf
  have hG : s.heap.size + 0 ≤ s.heap.size := Nat.le_refl _
  have hl := lv_entry ([.ref h0]) (n := 1) (Nat.le_of_ble_eq_true rfl)
  rw [lg_entry_eq]
  generalize (lg_sl ([.ref h0]) ++ List.replicate (1 - (lg_sl ([.ref h0])).length) Slot.unset).toArray = ls at hl ⊢
  have hl : lv_has ls 1 [(0, .ref h0)] := hl
  refine lv_aload_n hx hb dJx35411_hasNext_aae02_0 rfl (lv_at hl 0 rfl) ?_
  refine va_get (D := (dC, dI)) (ci := 1) (v := .int 6) (C := RJx35411) (T := TJx35411) (N := 4) hx hb hts in_Jx35411 hown hK hP 0 rfl rfl 0 (by decide) (hts _ q_259) (fun _ h9 => h9) rfl dJx35411_hasNext_aae02_1 ?_
  refine lv_aload_n hx hb dJx35411_hasNext_aae02_4 rfl (lv_at hl 0 rfl) ?_
  refine va_get (D := (dC, dI)) (ci := 1) (v := .ref h1) (C := RJx35411) (T := TJx35411) (N := 4) hx hb hts in_Jx35411 hown hK hP 0 rfl rfl 3 (by decide) (hts _ q_247) (fun _ h9 => h9) rfl dJx35411_hasNext_aae02_5 ?_
  refine va_getN (D := (dC, dI)) (ci := 0) (v := .int 7) (C := RJx4a65c) (T := TJx4a65c) (N := 3) hx hb hts in_Jx4a65c hown hK hP 1 rfl rfl 2 (by decide) (va_Nw.use rfl hT.2.2.2.2.1) (fun _ h9 => h9) rfl dJx35411_hasNext_aae02_8 ?_
  refine lv_icmp_eq (tgt := 18) hx hb dJx35411_hasNext_aae02_11 (by decide) (fun cz => absurd cz (by decide)) (fun _ => ?_)
  refine lv_iconst (v := 1) hx hb dJx35411_hasNext_aae02_14 (by decide) ?_
  refine lv_goto (tgt := 19) hx hb dJx35411_hasNext_aae02_15 (by decide) ?_
  exact W.zret (v := 1) (ty := .boolean) hx hb hr rfl (fun t9 ht9 hW9 => ⟨⟨1, (), rfl, rfl, ⟨pq_mk (wc := [(h0, .inr (1, [.int 6, .int 5, .int 7, .ref h1])), (h1, .inr (0, [.int 7, .ref o0, .int 7]))]) (tc := []) hP hD hK [0, 1] [] rfl rfl rfl rfl ht9 hW9, by rw [ht9]; exact Nat.le_trans (Nat.add_le_add_left (Nat.le_of_ble_eq_true rfl) _) hG⟩⟩, hS.F ht9⟩) hS.2.2 dJx35411_hasNext_aae02_19

set_option maxHeartbeats 4000000 in
set_option maxRecDepth 100000 in
theorem k649_checkForComodification (l : Launch) (hl9 : l.stackTraces = false) (dC : Nat → ClassId) (dI : Nat → Nat → Nat) (z : XZ) (h0 h1 : Nat) (o0 : Nat) (sz : Nat) : Met l yJx35411_checkForComodification_da8c8 (.code yJx35411_checkForComodification_da8c8 cJx35411_checkForComodification_da8c8 1 none :: wsL_law) ({ frames := 0, cells := 0, slots := 0, locals := 0 }) (va_Pc [.ref h0] (PC (dC, dI) [(h0, .inr (1, [.int 6, .int 5, .int 7, .ref h1])), (h1, .inr (0, [.int 7, .ref o0, .int 7]))] [] sz z)) (va_Qv (fun (_ : Unit) => True) (fun (_ : Unit) (t : State) => PG (dC, dI) [(h0, .inr (1, [.int 6, .int 5, .int 7, .ref h1])), (h1, .inr (0, [.int 7, .ref o0, .int 7]))] [] (va_A [(h0, .inr (1, [.int 6, .int 5, .int 7, .ref h1])), (h1, .inr (0, [.int 7, .ref o0, .int 7]))] sz) sz 0 t) (va_A [(h0, .inr (1, [.int 6, .int 5, .int 7, .ref h1])), (h1, .inr (0, [.int 7, .ref o0, .int 7]))] sz)) 0 0 (va_A [(h0, .inr (1, [.int 6, .int 5, .int 7, .ref h1])), (h1, .inr (0, [.int 7, .ref o0, .int 7]))] sz) := by
  refine Met.ofW (cc := cJx35411_checkForComodification_da8c8) (maxL := 1) (ret := none) (by decide) rfl ?_
  intro p e s m args below meth c s₁ B hml hv
  obtain ⟨rfl, hsz, hP, hK, hD0, hX, hT⟩ := hv
  have hx := B.exec
  have hb := B.bytes
  have hr := B.returns
  have hts0 := atoms_spec (ws := .code yJx35411_checkForComodification_da8c8 cJx35411_checkForComodification_da8c8 1 none :: wsL_law) B.pre
  have hts := xTail hts0
  have hown : s.vm.findClass RJx35411 = some m.cls := findClass_of_methodNamed B.named
  have hlocks := B.notSynchronized
  subst hsz
  have hD := hD0.self (sz := s.heap.size)
  generalize hAe : va_A [(h0, .inr (1, [.int 6, .int 5, .int 7, .ref h1])), (h1, .inr (0, [.int 7, .ref o0, .int 7]))] s.heap.size = A at hD hX ⊢
  have hA : ∀ q : Nat, s.heap.size ≤ q → A q := fun q h => by rw [← hAe]; exact Or.inr h
  have hS : va_S A s.heap s.heap [] := va_S.rf
  have hG : s.heap.size + 0 ≤ s.heap.size := Nat.le_refl _
  have hl := lv_entry ([.ref h0]) (n := 1) (Nat.le_of_ble_eq_true rfl)
  rw [lg_entry_eq]
  generalize (lg_sl ([.ref h0]) ++ List.replicate (1 - (lg_sl ([.ref h0])).length) Slot.unset).toArray = ls at hl ⊢
  have hl : lv_has ls 1 [(0, .ref h0)] := hl
  refine lv_aload_n hx hb dJx35411_checkForComodification_da8c8_0 rfl (lv_at hl 0 rfl) ?_
  refine va_get (D := (dC, dI)) (ci := 1) (v := .ref h1) (C := RJx35411) (T := TJx35411) (N := 4) hx hb hts in_Jx35411 hown hK hP 0 rfl rfl 3 (by decide) (hts _ q_247) (fun _ h9 => h9) rfl dJx35411_checkForComodification_da8c8_1 ?_
  refine va_get (D := (dC, dI)) (ci := 0) (v := .int 7) (C := RJx4a65c) (T := TJx4a65c) (N := 3) hx hb hts in_Jx4a65c hown hK hP 1 rfl rfl 0 (by decide) (hts _ q_250) (u_same (hts _ q_107)) rfl dJx35411_checkForComodification_da8c8_4 ?_
  refine lv_aload_n hx hb dJx35411_checkForComodification_da8c8_7 rfl (lv_at hl 0 rfl) ?_
  refine va_get (D := (dC, dI)) (ci := 1) (v := .int 7) (C := RJx35411) (T := TJx35411) (N := 4) hx hb hts in_Jx35411 hown hK hP 0 rfl rfl 2 (by decide) (hts _ q_251) (fun _ h9 => h9) rfl dJx35411_checkForComodification_da8c8_8 ?_
  refine lv_icmp_eq (tgt := 22) hx hb dJx35411_checkForComodification_da8c8_11 (by decide) (fun _ => ?_) (fun cz => absurd (by decide) cz)
  exact W.vret hx hb hr (fun t9 ht9 hW9 => ⟨⟨(), rfl, trivial, ⟨pq_mk (wc := [(h0, .inr (1, [.int 6, .int 5, .int 7, .ref h1])), (h1, .inr (0, [.int 7, .ref o0, .int 7]))]) (tc := []) hP hD hK [0, 1] [] rfl rfl rfl rfl ht9 hW9, by rw [ht9]; exact Nat.le_trans (Nat.add_le_add_left (Nat.le_of_ble_eq_true rfl) _) hG⟩⟩, hS.F ht9⟩) hS.2.2 dJx35411_checkForComodification_da8c8_22

set_option maxHeartbeats 4000000 in
set_option maxRecDepth 100000 in
theorem k650_next (l : Launch) (hl9 : l.stackTraces = false) (dC : Nat → ClassId) (dI : Nat → Nat → Nat) (z : XZ) (h0 h1 h2 : Nat) (sz : Nat) (kc0 : ClassId) : Met l yJx35411_next_0502b (.code yJx35411_next_0502b cJx35411_next_0502b 3 (some (.object "java/lang/Object")) :: wsL_law) ({ frames := 1, cells := 0, slots := 0, locals := 20 }) (va_Pc [.ref h0] (PC (dC, dI) [(h0, .inr (1, [.int 6, .int 5, .int 7, .ref h1])), (h1, .inr (0, [.int 7, .ref h2, .int 7])), (h2, .inl (kc0, 10, .inr (.inr (.inr (.inr (va_up (va_up (va_up (va_up (va_up (va_up (va_up (fun _ => none) 0 (some (z.2.2.1 128))) 1 (some (z.2.2.1 128))) 2 (some (z.2.2.1 128))) 3 (some (z.2.2.1 128))) 4 (some (z.2.2.1 128))) 5 (some (z.2.2.1 128))) 6 (some (z.2.2.1 128))))))))] [(kc0, .object "java/lang/Object")] sz z)) (va_Qr (fun (_ : Unit) => True) (fun (_ : Unit) (ra : Nat) (t : State) => ra = (z.2.2.1 128) ∧ PG (dC, dI) [(h0, .inr (1, [.int 7, .int 6, .int 7, .ref h1])), (h1, .inr (0, [.int 7, .ref h2, .int 7])), (h2, .inl (kc0, 10, .inr (.inr (.inr (.inr (va_up (va_up (va_up (va_up (va_up (va_up (va_up (fun _ => none) 0 (some (z.2.2.1 128))) 1 (some (z.2.2.1 128))) 2 (some (z.2.2.1 128))) 3 (some (z.2.2.1 128))) 4 (some (z.2.2.1 128))) 5 (some (z.2.2.1 128))) 6 (some (z.2.2.1 128))))))))] [(kc0, .object "java/lang/Object")] (va_A [(h0, .inr (1, [.int 6, .int 5, .int 7, .ref h1])), (h1, .inr (0, [.int 7, .ref h2, .int 7])), (h2, .inl (kc0, 10, .inr (.inr (.inr (.inr (va_up (va_up (va_up (va_up (va_up (va_up (va_up (fun _ => none) 0 (some (z.2.2.1 128))) 1 (some (z.2.2.1 128))) 2 (some (z.2.2.1 128))) 3 (some (z.2.2.1 128))) 4 (some (z.2.2.1 128))) 5 (some (z.2.2.1 128))) 6 (some (z.2.2.1 128))))))))] sz) sz 0 t) (va_A [(h0, .inr (1, [.int 6, .int 5, .int 7, .ref h1])), (h1, .inr (0, [.int 7, .ref h2, .int 7])), (h2, .inl (kc0, 10, .inr (.inr (.inr (.inr (va_up (va_up (va_up (va_up (va_up (va_up (va_up (fun _ => none) 0 (some (z.2.2.1 128))) 1 (some (z.2.2.1 128))) 2 (some (z.2.2.1 128))) 3 (some (z.2.2.1 128))) 4 (some (z.2.2.1 128))) 5 (some (z.2.2.1 128))) 6 (some (z.2.2.1 128))))))))] sz)) 0 0 (va_A [(h0, .inr (1, [.int 6, .int 5, .int 7, .ref h1])), (h1, .inr (0, [.int 7, .ref h2, .int 7])), (h2, .inl (kc0, 10, .inr (.inr (.inr (.inr (va_up (va_up (va_up (va_up (va_up (va_up (va_up (fun _ => none) 0 (some (z.2.2.1 128))) 1 (some (z.2.2.1 128))) 2 (some (z.2.2.1 128))) 3 (some (z.2.2.1 128))) 4 (some (z.2.2.1 128))) 5 (some (z.2.2.1 128))) 6 (some (z.2.2.1 128))))))))] sz) := by
  refine Met.ofW (cc := cJx35411_next_0502b) (maxL := 3) (ret := (some (.object "java/lang/Object"))) (by decide) rfl ?_
  intro p e s m args below meth c s₁ B hml hv
  obtain ⟨rfl, hsz, hP, hK, hD0, hX, hT⟩ := hv
  have hx := B.exec
  have hb := B.bytes
  have hr := B.returns
  have hts0 := atoms_spec (ws := .code yJx35411_next_0502b cJx35411_next_0502b 3 (some (.object "java/lang/Object")) :: wsL_law) B.pre
  have hts := xTail hts0
  have hown : s.vm.findClass RJx35411 = some m.cls := findClass_of_methodNamed B.named
  have hlocks := B.notSynchronized
  subst hsz
  have hD := hD0.self (sz := s.heap.size)
  generalize hAe : va_A [(h0, .inr (1, [.int 6, .int 5, .int 7, .ref h1])), (h1, .inr (0, [.int 7, .ref h2, .int 7])), (h2, .inl (kc0, 10, .inr (.inr (.inr (.inr (va_up (va_up (va_up (va_up (va_up (va_up (va_up (fun _ => none) 0 (some (z.2.2.1 128))) 1 (some (z.2.2.1 128))) 2 (some (z.2.2.1 128))) 3 (some (z.2.2.1 128))) 4 (some (z.2.2.1 128))) 5 (some (z.2.2.1 128))) 6 (some (z.2.2.1 128))))))))] s.heap.size = A at hD hX ⊢
  have hA : ∀ q : Nat, s.heap.size ≤ q → A q := fun q h => by rw [← hAe]; exact Or.inr h
  have hS : va_S A s.heap s.heap [] := va_S.rf
  have hG : s.heap.size + 0 ≤ s.heap.size := Nat.le_refl _
  have hl := lv_entry ([.ref h0]) (n := 3) (Nat.le_of_ble_eq_true rfl)
  rw [lg_entry_eq]
  generalize (lg_sl ([.ref h0]) ++ List.replicate (3 - (lg_sl ([.ref h0])).length) Slot.unset).toArray = ls at hl ⊢
  have hl : lv_has ls 3 [(0, .ref h0)] := hl
  refine lv_aload_n hx hb dJx35411_next_0502b_0 rfl (lv_at hl 0 rfl) ?_
  have hF1 := va_free (wc := [(h0, .inr (1, [.int 6, .int 5, .int 7, .ref h1])), (h1, .inr (0, [.int 7, .ref h2, .int 7]))]) hD hS hA [0, 1] rfl
  refine va_callv (va_runV (As := []) (rest := []) ⟨hx, hb, hml, hown, hts⟩ (k649_checkForComodification l hl9 dC dI z h0 h1 h2 s.heap.size) (cwV 0 hts (gV q_303 q_304 q_305 q_246 q_302) rfl rfl rfl (by decide +kernel) ⟨Nat.le_of_ble_eq_true rfl, Nat.le_of_ble_eq_true rfl⟩) ⟨pc_blind, va_recv hK hP (ci := 1) (q0 := 0) rfl rfl, fun U hU hW => ⟨rfl, pc_mk hP hD hK hS hX hT [0, 1] [] rfl rfl rfl rfl hF1 hU hW⟩⟩ rfl rfl hl.1 rfl (lv_room (Nat.le_of_ble_eq_true rfl)) dJx35411_next_0502b_1 ⟨(Nat.le_of_ble_eq_true rfl), (Nat.le_of_ble_eq_true rfl)⟩) hS (fun q9 _ h9 => hF1 q9 h9) hF1 (fun u3 t3 H3 L3 ht3 hvm3 hw3 hB3 hz3 hk3 hS => ?_)
  obtain ⟨hP, hD, hK⟩ := pq_join (wr := [(h2, .inl (kc0, 10, .inr (.inr (.inr (.inr (va_up (va_up (va_up (va_up (va_up (va_up (va_up (fun _ => none) 0 (some (z.2.2.1 128))) 1 (some (z.2.2.1 128))) 2 (some (z.2.2.1 128))) 3 (some (z.2.2.1 128))) 4 (some (z.2.2.1 128))) 5 (some (z.2.2.1 128))) 6 (some (z.2.2.1 128))))))))]) (tr := [(kc0, .object "java/lang/Object")]) (wz := [(h2, .inl (kc0, 10, .inr (.inr (.inr (.inr (va_up (va_up (va_up (va_up (va_up (va_up (va_up (fun _ => none) 0 (some (z.2.2.1 128))) 1 (some (z.2.2.1 128))) 2 (some (z.2.2.1 128))) 3 (some (z.2.2.1 128))) 4 (some (z.2.2.1 128))) 5 (some (z.2.2.1 128))) 6 (some (z.2.2.1 128)))))))), (h0, .inr (1, [.int 6, .int 5, .int 7, .ref h1])), (h1, .inr (0, [.int 7, .ref h2, .int 7]))]) (tz := [(kc0, .object "java/lang/Object")]) hP hD hK [0, 1] [2] [0] rfl rfl (by decide) (by decide) rfl hk3 hF1 hB3.1 ht3 hvm3 rfl rfl
  have hG : s.heap.size + 0 ≤ H3.size := Nat.le_trans hG hz3
  refine lv_aload_n hx hb dJx35411_next_0502b_4 rfl (lv_at hl 0 rfl) ?_
  refine va_get (D := (dC, dI)) (ci := 1) (v := .int 6) (C := RJx35411) (T := TJx35411) (N := 4) hx hb hts in_Jx35411 hown hK hP 1 rfl rfl 0 (by decide) (hts _ q_259) (fun _ h9 => h9) rfl dJx35411_next_0502b_5 ?_
  refine lv_istore_n (lv' := [(1, .int 6), (0, .ref h0)]) hx hb dJx35411_next_0502b_8 rfl hl (by decide) rfl (fun ls hl => ?_)
  refine lv_iload_n hx hb dJx35411_next_0502b_9 rfl (lv_at hl 0 rfl) ?_
  refine lv_aload_n hx hb dJx35411_next_0502b_10 rfl (lv_at hl 1 rfl) ?_
  refine va_get (D := (dC, dI)) (ci := 1) (v := .ref h1) (C := RJx35411) (T := TJx35411) (N := 4) hx hb hts in_Jx35411 hown hK hP 1 rfl rfl 3 (by decide) (hts _ q_247) (fun _ h9 => h9) rfl dJx35411_next_0502b_11 ?_
  refine va_getN (D := (dC, dI)) (ci := 0) (v := .int 7) (C := RJx4a65c) (T := TJx4a65c) (N := 3) hx hb hts in_Jx4a65c hown hK hP 2 rfl rfl 2 (by decide) (va_Nw.use rfl hT.2.2.2.2.1) (fun _ h9 => h9) rfl dJx35411_next_0502b_14 ?_
  refine lv_icmp_lt (tgt := 28) hx hb dJx35411_next_0502b_17 (by decide) (fun _ => ?_) (fun cz => absurd (by decide) cz)
  refine lv_aload_n hx hb dJx35411_next_0502b_28 rfl (lv_at hl 1 rfl) ?_
  refine va_get (D := (dC, dI)) (ci := 1) (v := .ref h1) (C := RJx35411) (T := TJx35411) (N := 4) hx hb hts in_Jx35411 hown hK hP 1 rfl rfl 3 (by decide) (hts _ q_247) (fun _ h9 => h9) rfl dJx35411_next_0502b_29 ?_
  refine va_get (D := (dC, dI)) (ci := 0) (v := .ref h2) (C := RJx4a65c) (T := TJx4a65c) (N := 3) hx hb hts in_Jx4a65c hown hK hP 2 rfl rfl 1 (by decide) (hts _ q_306) (fun _ h9 => h9) rfl dJx35411_next_0502b_32 ?_
  refine lv_astore_n (lv' := [(2, .ref h2), (1, .int 6), (0, .ref h0)]) hx hb dJx35411_next_0502b_35 rfl hl (by decide) rfl (fun ls hl => ?_)
  refine lv_iload_n hx hb dJx35411_next_0502b_36 rfl (lv_at hl 1 rfl) ?_
  refine lv_aload_n hx hb dJx35411_next_0502b_37 rfl (lv_at hl 0 rfl) ?_
  refine va_alen hx hb hK hP 0 0 rfl rfl (v := 10) rfl dJx35411_next_0502b_38 ?_
  refine lv_icmp_lt (tgt := 50) hx hb dJx35411_next_0502b_39 (by decide) (fun _ => ?_) (fun cz => absurd (by decide) cz)
  refine lv_aload_n hx hb dJx35411_next_0502b_50 rfl (lv_at hl 2 rfl) ?_
  refine lv_iload_n hx hb dJx35411_next_0502b_51 rfl (lv_at hl 1 rfl) ?_
  refine lv_iconst (v := 1) hx hb dJx35411_next_0502b_52 (by decide) ?_
  refine lv_iadd hx hb dJx35411_next_0502b_53 ?_
  refine lv_topi (fun y5 ey5 => ?_)
  obtain rfl : y5 = 7 := ey5.trans (by decide)
  refine va_put (D := (dC, dI)) (ci := 1) (v := .int 7) (ty := .int) (C := RJx35411) (T := TJx35411) (N := 4) hx hb hts in_Jx35411 tyJx35411 tyJx35411_ok nmJx35411 hown hK hP hD (va_Sre hS) 1 rfl rfl 0 (by decide) (hts _ q_259) (fun _ h9 => h9) rfl (by decide +kernel) rfl rfl (Nat.le_of_ble_eq_true rfl) dJx35411_next_0502b_54 (fun H6 _ hP hD hS' => ?_)
  have hG : s.heap.size + 0 ≤ H6.size := Nat.le_trans hG hS'.1
  have hS := va_Str hS hS'
  have hP : va_P (dC, dI) xCl [(h2, .inl (kc0, 10, .inr (.inr (.inr (.inr (va_up (va_up (va_up (va_up (va_up (va_up (va_up (fun _ => none) 0 (some (z.2.2.1 128))) 1 (some (z.2.2.1 128))) 2 (some (z.2.2.1 128))) 3 (some (z.2.2.1 128))) 4 (some (z.2.2.1 128))) 5 (some (z.2.2.1 128))) 6 (some (z.2.2.1 128)))))))), (h0, .inr (1, [.int 7, .int 5, .int 7, .ref h1])), (h1, .inr (0, [.int 7, .ref h2, .int 7]))] H6 := hP
  have hD : va_D A [(h2, .inl (kc0, 10, .inr (.inr (.inr (.inr (va_up (va_up (va_up (va_up (va_up (va_up (va_up (fun _ => none) 0 (some (z.2.2.1 128))) 1 (some (z.2.2.1 128))) 2 (some (z.2.2.1 128))) 3 (some (z.2.2.1 128))) 4 (some (z.2.2.1 128))) 5 (some (z.2.2.1 128))) 6 (some (z.2.2.1 128)))))))), (h0, .inr (1, [.int 7, .int 5, .int 7, .ref h1])), (h1, .inr (0, [.int 7, .ref h2, .int 7]))] := hD
  refine lv_aload_n hx hb dJx35411_next_0502b_57 rfl (lv_at hl 0 rfl) ?_
  refine lv_aload_n hx hb dJx35411_next_0502b_58 rfl (lv_at hl 2 rfl) ?_
  refine lv_iload_n hx hb dJx35411_next_0502b_59 rfl (lv_at hl 1 rfl) ?_
  refine lv_dup_x1 hx hb dJx35411_next_0502b_60 rfl rfl ?_
  refine va_put (D := (dC, dI)) (ci := 1) (v := .int 6) (ty := .int) (C := RJx35411) (T := TJx35411) (N := 4) hx hb hts in_Jx35411 tyJx35411 tyJx35411_ok nmJx35411 hown hK hP hD (va_Sre hS) 1 rfl rfl 1 (by decide) (hts _ q_249) (fun _ h9 => h9) rfl (by decide +kernel) rfl rfl (Nat.le_of_ble_eq_true rfl) dJx35411_next_0502b_61 (fun H7 _ hP hD hS' => ?_)
  have hG : s.heap.size + 0 ≤ H7.size := Nat.le_trans hG hS'.1
  have hS := va_Str hS hS'
  have hP : va_P (dC, dI) xCl [(h2, .inl (kc0, 10, .inr (.inr (.inr (.inr (va_up (va_up (va_up (va_up (va_up (va_up (va_up (fun _ => none) 0 (some (z.2.2.1 128))) 1 (some (z.2.2.1 128))) 2 (some (z.2.2.1 128))) 3 (some (z.2.2.1 128))) 4 (some (z.2.2.1 128))) 5 (some (z.2.2.1 128))) 6 (some (z.2.2.1 128)))))))), (h0, .inr (1, [.int 7, .int 6, .int 7, .ref h1])), (h1, .inr (0, [.int 7, .ref h2, .int 7]))] H7 := hP
  have hD : va_D A [(h2, .inl (kc0, 10, .inr (.inr (.inr (.inr (va_up (va_up (va_up (va_up (va_up (va_up (va_up (fun _ => none) 0 (some (z.2.2.1 128))) 1 (some (z.2.2.1 128))) 2 (some (z.2.2.1 128))) 3 (some (z.2.2.1 128))) 4 (some (z.2.2.1 128))) 5 (some (z.2.2.1 128))) 6 (some (z.2.2.1 128)))))))), (h0, .inr (1, [.int 7, .int 6, .int 7, .ref h1])), (h1, .inr (0, [.int 7, .ref h2, .int 7]))] := hD
  refine va_aldq hx hb hK hP 0 0 rfl rfl (i := 6) (by unfold vp_in; decide) dJx35411_next_0502b_64 ?_
  refine W.eq (g2 := F0 m 65 ls [.ref (z.2.2.1 128)]) rfl ?_
  exact W.aret (v := .ref (z.2.2.1 128)) hx hb hr (by first | exact Or.inl ⟨_, rfl⟩ | exact Or.inr ⟨_, rfl⟩) (Or.inr ⟨_, rfl⟩) (fun t9 ht9 hW9 => ⟨⟨(), (z.2.2.1 128), rfl, trivial, ⟨rfl, ⟨pq_mk (wc := [(h0, .inr (1, [.int 7, .int 6, .int 7, .ref h1])), (h1, .inr (0, [.int 7, .ref h2, .int 7])), (h2, .inl (kc0, 10, .inr (.inr (.inr (.inr (va_up (va_up (va_up (va_up (va_up (va_up (va_up (fun _ => none) 0 (some (z.2.2.1 128))) 1 (some (z.2.2.1 128))) 2 (some (z.2.2.1 128))) 3 (some (z.2.2.1 128))) 4 (some (z.2.2.1 128))) 5 (some (z.2.2.1 128))) 6 (some (z.2.2.1 128))))))))]) (tc := [(kc0, .object "java/lang/Object")]) hP hD hK [1, 2, 0] [0] rfl rfl rfl rfl ht9 hW9, by rw [ht9]; exact Nat.le_trans (Nat.add_le_add_left (Nat.le_of_ble_eq_true rfl) _) hG⟩⟩⟩, hS.F ht9⟩) hS.2.2 dJx35411_next_0502b_65

set_option maxHeartbeats 4000000 in
set_option maxRecDepth 100000 in
theorem k651_hasNext (l : Launch) (hl9 : l.stackTraces = false) (dC : Nat → ClassId) (dI : Nat → Nat → Nat) (z : XZ) (h0 h1 : Nat) (o0 : Nat) (sz : Nat) : Met l yJx35411_hasNext_aae02 (.code yJx35411_hasNext_aae02 cJx35411_hasNext_aae02 1 (some .boolean) :: wsL_law) ({ frames := 0, cells := 0, slots := 0, locals := 0 }) (va_Pc [.ref h0] (PC (dC, dI) [(h0, .inr (1, [.int 7, .int 6, .int 7, .ref h1])), (h1, .inr (0, [.int 7, .ref o0, .int 7]))] [] sz z)) (va_Qi (fun (r : Int32) (_ : Unit) => r = 0) (fun (_ : Unit) (t : State) => PG (dC, dI) [(h0, .inr (1, [.int 7, .int 6, .int 7, .ref h1])), (h1, .inr (0, [.int 7, .ref o0, .int 7]))] [] (va_A [(h0, .inr (1, [.int 7, .int 6, .int 7, .ref h1])), (h1, .inr (0, [.int 7, .ref o0, .int 7]))] sz) sz 0 t) (va_A [(h0, .inr (1, [.int 7, .int 6, .int 7, .ref h1])), (h1, .inr (0, [.int 7, .ref o0, .int 7]))] sz)) 0 0 (va_A [(h0, .inr (1, [.int 7, .int 6, .int 7, .ref h1])), (h1, .inr (0, [.int 7, .ref o0, .int 7]))] sz) := by
  refine Met.ofW (cc := cJx35411_hasNext_aae02) (maxL := 1) (ret := (some .boolean)) (by decide) rfl ?_
  intro p e s m args below meth c s₁ B hml hv
  obtain ⟨rfl, hsz, hP, hK, hD0, hX, hT⟩ := hv
  have hx := B.exec
  have hb := B.bytes
  have hr := B.returns
  have hts0 := atoms_spec (ws := .code yJx35411_hasNext_aae02 cJx35411_hasNext_aae02 1 (some .boolean) :: wsL_law) B.pre
  have hts := xTail hts0
  have hown : s.vm.findClass RJx35411 = some m.cls := findClass_of_methodNamed B.named
  have hlocks := B.notSynchronized
  subst hsz
  have hD := hD0.self (sz := s.heap.size)
  generalize hAe : va_A [(h0, .inr (1, [.int 7, .int 6, .int 7, .ref h1])), (h1, .inr (0, [.int 7, .ref o0, .int 7]))] s.heap.size = A at hD hX ⊢
  have hA : ∀ q : Nat, s.heap.size ≤ q → A q := fun q h => by rw [← hAe]; exact Or.inr h
  have hS : va_S A s.heap s.heap [] := va_S.rf
  have hG : s.heap.size + 0 ≤ s.heap.size := Nat.le_refl _
  have hl := lv_entry ([.ref h0]) (n := 1) (Nat.le_of_ble_eq_true rfl)
  rw [lg_entry_eq]
  generalize (lg_sl ([.ref h0]) ++ List.replicate (1 - (lg_sl ([.ref h0])).length) Slot.unset).toArray = ls at hl ⊢
  have hl : lv_has ls 1 [(0, .ref h0)] := hl
  refine lv_aload_n hx hb dJx35411_hasNext_aae02_0 rfl (lv_at hl 0 rfl) ?_
  refine va_get (D := (dC, dI)) (ci := 1) (v := .int 7) (C := RJx35411) (T := TJx35411) (N := 4) hx hb hts in_Jx35411 hown hK hP 0 rfl rfl 0 (by decide) (hts _ q_259) (fun _ h9 => h9) rfl dJx35411_hasNext_aae02_1 ?_
  refine lv_aload_n hx hb dJx35411_hasNext_aae02_4 rfl (lv_at hl 0 rfl) ?_
  refine va_get (D := (dC, dI)) (ci := 1) (v := .ref h1) (C := RJx35411) (T := TJx35411) (N := 4) hx hb hts in_Jx35411 hown hK hP 0 rfl rfl 3 (by decide) (hts _ q_247) (fun _ h9 => h9) rfl dJx35411_hasNext_aae02_5 ?_
  refine va_getN (D := (dC, dI)) (ci := 0) (v := .int 7) (C := RJx4a65c) (T := TJx4a65c) (N := 3) hx hb hts in_Jx4a65c hown hK hP 1 rfl rfl 2 (by decide) (va_Nw.use rfl hT.2.2.2.2.1) (fun _ h9 => h9) rfl dJx35411_hasNext_aae02_8 ?_
  refine lv_icmp_eq (tgt := 18) hx hb dJx35411_hasNext_aae02_11 (by decide) (fun _ => ?_) (fun cz => absurd (by decide) cz)
  refine lv_iconst (v := 0) hx hb dJx35411_hasNext_aae02_18 (by decide) ?_
  exact W.zret (v := 0) (ty := .boolean) hx hb hr rfl (fun t9 ht9 hW9 => ⟨⟨0, (), rfl, rfl, ⟨pq_mk (wc := [(h0, .inr (1, [.int 7, .int 6, .int 7, .ref h1])), (h1, .inr (0, [.int 7, .ref o0, .int 7]))]) (tc := []) hP hD hK [0, 1] [] rfl rfl rfl rfl ht9 hW9, by rw [ht9]; exact Nat.le_trans (Nat.add_le_add_left (Nat.le_of_ble_eq_true rfl) _) hG⟩⟩, hS.F ht9⟩) hS.2.2 dJx35411_hasNext_aae02_19
