set_option maxHeartbeats 4000000 in
set_option maxRecDepth 100000 in
theorem k457_valuesNow (l : Launch) (hl9 : l.stackTraces = false) (dC : Nat → ClassId) (dI : Nat → Nat → Nat) (z : XZ) (h0 h1 h2 h3 h4 h5 h6 h7 : Nat) (o0 o1 o2 : Nat) (sz : Nat) (kc0 : ClassId) : Met l yX9_valuesNow (.code yX9_valuesNow cX9_valuesNow 3 (some (.array .char)) :: wsL_law) ({ frames := 3, cells := 1, slots := 40, locals := 64 }) (va_Pc [.ref h0] (PC (dC, dI) [(h0, .inr (8, [.int 0, .ref h1, .ref o0, .ref o1, .ref o2, .int 0])), (h1, .inr (0, [.int 5, .ref h2, .int 5])), (h2, .inl (kc0, 10, .inr (.inr (.inr (.inr (va_up (va_up (va_up (va_up (va_up (fun _ => none) 0 (some h3)) 1 (some h4)) 2 (some h5)) 3 (some h6)) 4 (some h7))))))), (h3, .inr (7, [.int 105, .int 120, .int 0, .int (-1), .int 0, .int (-1)])), (h4, .inr (7, [.int 105, .int 120, .int 0, .int (-1), .int 0, .int (-1)])), (h5, .inr (7, [.int 105, .int 120, .int 0, .int (-1), .int 0, .int (-1)])), (h6, .inr (7, [.int 105, .int 120, .int 0, .int (-1), .int 0, .int (-1)])), (h7, .inr (7, [.int 105, .int 120, .int 0, .int (-1), .int 0, .int (-1)]))] [(kc0, .object "java/lang/Object")] sz z)) (va_Qr (fun (_ : Unit) => True) (fun (_ : Unit) (ra : Nat) (t : State) => ∃ (n0 : Nat), ∃ (m0 : ClassId), ra = n0 ∧ PG (dC, dI) [(h0, .inr (8, [.int 0, .ref h1, .ref o0, .ref o1, .ref o2, .int 0])), (h1, .inr (0, [.int 5, .ref h2, .int 5])), (h2, .inl (kc0, 10, .inr (.inr (.inr (.inr (va_up (va_up (va_up (va_up (va_up (fun _ => none) 0 (some h3)) 1 (some h4)) 2 (some h5)) 3 (some h6)) 4 (some h7))))))), (h3, .inr (7, [.int 105, .int 120, .int 0, .int (-1), .int 0, .int (-1)])), (h4, .inr (7, [.int 105, .int 120, .int 0, .int (-1), .int 0, .int (-1)])), (h5, .inr (7, [.int 105, .int 120, .int 0, .int (-1), .int 0, .int (-1)])), (h6, .inr (7, [.int 105, .int 120, .int 0, .int (-1), .int 0, .int (-1)])), (h7, .inr (7, [.int 105, .int 120, .int 0, .int (-1), .int 0, .int (-1)])), (n0, .inl (m0, 40, .inl (upd (upd (upd (upd (upd (fun _ => 0) 0 120) 1 120) 2 120) 3 120) 4 120)))] [(kc0, .object "java/lang/Object"), (m0, .char)] (va_A [(h0, .inr (8, [.int 0, .ref h1, .ref o0, .ref o1, .ref o2, .int 0])), (h1, .inr (0, [.int 5, .ref h2, .int 5])), (h2, .inl (kc0, 10, .inr (.inr (.inr (.inr (va_up (va_up (va_up (va_up (va_up (fun _ => none) 0 (some h3)) 1 (some h4)) 2 (some h5)) 3 (some h6)) 4 (some h7))))))), (h3, .inr (7, [.int 105, .int 120, .int 0, .int (-1), .int 0, .int (-1)])), (h4, .inr (7, [.int 105, .int 120, .int 0, .int (-1), .int 0, .int (-1)])), (h5, .inr (7, [.int 105, .int 120, .int 0, .int (-1), .int 0, .int (-1)])), (h6, .inr (7, [.int 105, .int 120, .int 0, .int (-1), .int 0, .int (-1)])), (h7, .inr (7, [.int 105, .int 120, .int 0, .int (-1), .int 0, .int (-1)]))] sz) sz 1 t) (va_A [(h0, .inr (8, [.int 0, .ref h1, .ref o0, .ref o1, .ref o2, .int 0])), (h1, .inr (0, [.int 5, .ref h2, .int 5])), (h2, .inl (kc0, 10, .inr (.inr (.inr (.inr (va_up (va_up (va_up (va_up (va_up (fun _ => none) 0 (some h3)) 1 (some h4)) 2 (some h5)) 3 (some h6)) 4 (some h7))))))), (h3, .inr (7, [.int 105, .int 120, .int 0, .int (-1), .int 0, .int (-1)])), (h4, .inr (7, [.int 105, .int 120, .int 0, .int (-1), .int 0, .int (-1)])), (h5, .inr (7, [.int 105, .int 120, .int 0, .int (-1), .int 0, .int (-1)])), (h6, .inr (7, [.int 105, .int 120, .int 0, .int (-1), .int 0, .int (-1)])), (h7, .inr (7, [.int 105, .int 120, .int 0, .int (-1), .int 0, .int (-1)]))] sz)) 1 40 (va_A [(h0, .inr (8, [.int 0, .ref h1, .ref o0, .ref o1, .ref o2, .int 0])), (h1, .inr (0, [.int 5, .ref h2, .int 5])), (h2, .inl (kc0, 10, .inr (.inr (.inr (.inr (va_up (va_up (va_up (va_up (va_up (fun _ => none) 0 (some h3)) 1 (some h4)) 2 (some h5)) 3 (some h6)) 4 (some h7))))))), (h3, .inr (7, [.int 105, .int 120, .int 0, .int (-1), .int 0, .int (-1)])), (h4, .inr (7, [.int 105, .int 120, .int 0, .int (-1), .int 0, .int (-1)])), (h5, .inr (7, [.int 105, .int 120, .int 0, .int (-1), .int 0, .int (-1)])), (h6, .inr (7, [.int 105, .int 120, .int 0, .int (-1), .int 0, .int (-1)])), (h7, .inr (7, [.int 105, .int 120, .int 0, .int (-1), .int 0, .int (-1)]))] sz) := by
  refine Met.ofW (cc := cX9_valuesNow) (maxL := 3) (ret := (some (.array .char))) (by decide) rfl ?_
  intro p e s m args below meth c s₁ B hml hv
  obtain ⟨rfl, hsz, hP, hK, hD0, hX, hT⟩ := hv
  have hx := B.exec
  have hb := B.bytes
  have hr := B.returns
  have hts0 := atoms_spec (ws := .code yX9_valuesNow cX9_valuesNow 3 (some (.array .char)) :: wsL_law) B.pre
  have hts := xTail hts0
  have hown : s.vm.findClass RX9 = some m.cls := findClass_of_methodNamed B.named
  have hlocks := B.notSynchronized
  subst hsz
  have hD := hD0.self (sz := s.heap.size)
  generalize hAe : va_A [(h0, .inr (8, [.int 0, .ref h1, .ref o0, .ref o1, .ref o2, .int 0])), (h1, .inr (0, [.int 5, .ref h2, .int 5])), (h2, .inl (kc0, 10, .inr (.inr (.inr (.inr (va_up (va_up (va_up (va_up (va_up (fun _ => none) 0 (some h3)) 1 (some h4)) 2 (some h5)) 3 (some h6)) 4 (some h7))))))), (h3, .inr (7, [.int 105, .int 120, .int 0, .int (-1), .int 0, .int (-1)])), (h4, .inr (7, [.int 105, .int 120, .int 0, .int (-1), .int 0, .int (-1)])), (h5, .inr (7, [.int 105, .int 120, .int 0, .int (-1), .int 0, .int (-1)])), (h6, .inr (7, [.int 105, .int 120, .int 0, .int (-1), .int 0, .int (-1)])), (h7, .inr (7, [.int 105, .int 120, .int 0, .int (-1), .int 0, .int (-1)]))] s.heap.size = A at hD hX ⊢
  have hA : ∀ q : Nat, s.heap.size ≤ q → A q := fun q h => by rw [← hAe]; exact Or.inr h
  have hS : va_S A s.heap s.heap [] := va_S.rf
  have hG : s.heap.size + 0 ≤ s.heap.size := Nat.le_refl _
  have hl := lv_entry ([.ref h0]) (n := 3) (Nat.le_of_ble_eq_true rfl)
  rw [lg_entry_eq]
  generalize (lg_sl ([.ref h0]) ++ List.replicate (3 - (lg_sl ([.ref h0])).length) Slot.unset).toArray = ls at hl ⊢
  have hl : lv_has ls 3 [(0, .ref h0)] := hl
  refine lv_bipush (v := 40) hx hb dX9_valuesNow_0 (by decide) ?_
  refine xa_newa (atype := .char) hx hb (hts _ q_314) rfl hK hP hD hS hA (n := 40) (N' := 40) (a0 := (40, .inl (fun _ => 0))) (fun _ => rfl) (by decide) (by decide) (Nat.le_of_ble_eq_true rfl) (Nat.le_of_ble_eq_true rfl) (Nat.le_of_ble_eq_true rfl) dX9_valuesNow_2 (fun a1 k2 H3 hg8 hK hP hD hS => ?_)
  have hG : s.heap.size + 1 ≤ H3.size := by rw [hg8]; exact Nat.succ_le_succ hG
  have hK : va_K (dC, dI) xCl [(kc0, .object "java/lang/Object"), (k2, .char)] s := hK
  have hP : va_P (dC, dI) xCl [(h0, .inr (8, [.int 0, .ref h1, .ref o0, .ref o1, .ref o2, .int 0])), (h1, .inr (0, [.int 5, .ref h2, .int 5])), (h2, .inl (kc0, 10, .inr (.inr (.inr (.inr (va_up (va_up (va_up (va_up (va_up (fun _ => none) 0 (some h3)) 1 (some h4)) 2 (some h5)) 3 (some h6)) 4 (some h7))))))), (h3, .inr (7, [.int 105, .int 120, .int 0, .int (-1), .int 0, .int (-1)])), (h4, .inr (7, [.int 105, .int 120, .int 0, .int (-1), .int 0, .int (-1)])), (h5, .inr (7, [.int 105, .int 120, .int 0, .int (-1), .int 0, .int (-1)])), (h6, .inr (7, [.int 105, .int 120, .int 0, .int (-1), .int 0, .int (-1)])), (h7, .inr (7, [.int 105, .int 120, .int 0, .int (-1), .int 0, .int (-1)])), (a1, .inl (k2, 40, .inl (fun _ => 0)))] H3 := hP
  have hD : va_D A [(h0, .inr (8, [.int 0, .ref h1, .ref o0, .ref o1, .ref o2, .int 0])), (h1, .inr (0, [.int 5, .ref h2, .int 5])), (h2, .inl (kc0, 10, .inr (.inr (.inr (.inr (va_up (va_up (va_up (va_up (va_up (fun _ => none) 0 (some h3)) 1 (some h4)) 2 (some h5)) 3 (some h6)) 4 (some h7))))))), (h3, .inr (7, [.int 105, .int 120, .int 0, .int (-1), .int 0, .int (-1)])), (h4, .inr (7, [.int 105, .int 120, .int 0, .int (-1), .int 0, .int (-1)])), (h5, .inr (7, [.int 105, .int 120, .int 0, .int (-1), .int 0, .int (-1)])), (h6, .inr (7, [.int 105, .int 120, .int 0, .int (-1), .int 0, .int (-1)])), (h7, .inr (7, [.int 105, .int 120, .int 0, .int (-1), .int 0, .int (-1)])), (a1, .inl (k2, 40, .inl (fun _ => 0)))] := hD
  refine W.widen (k := 1) (n := 40) (by decide) (by decide) ?_
  refine lv_astore_n (lv' := [(1, .ref a1), (0, .ref h0)]) hx hb dX9_valuesNow_4 rfl hl (by decide) rfl (fun ls hl => ?_)
  refine lv_iconst (v := 0) hx hb dX9_valuesNow_5 (by decide) ?_
  refine lv_istore_n (lv' := [(2, .int 0), (1, .ref a1), (0, .ref h0)]) hx hb dX9_valuesNow_6 rfl hl (by decide) rfl (fun ls hl => ?_)
  refine lv_iload_n hx hb dX9_valuesNow_7 rfl (lv_at hl 0 rfl) ?_
  refine lv_aload_n hx hb dX9_valuesNow_8 rfl (lv_at hl 2 rfl) ?_
  refine va_get (D := (dC, dI)) (ci := 8) (v := .ref h1) (C := RX9) (T := TX9) (N := 6) hx hb hts in_X9 hown hK hP 0 rfl rfl 1 (by decide) (hts _ q_64) (fun _ h9 => h9) rfl dX9_valuesNow_9 ?_
  have hF4 := va_free (wc := [(h1, .inr (0, [.int 5, .ref h2, .int 5]))]) hD hS hA [1] rfl
  refine va_calli (va_runV (As := []) (rest := [.int 0]) ⟨hx, hb, hml, hown, hts⟩ (k20_size l hl9 dC dI z h1 h2 H3.size 5 5) (cwV 0 hts (gV q_272 q_77 q_78 q_12 q_75) rfl rfl rfl (by decide +kernel) ⟨Nat.le_of_ble_eq_true rfl, Nat.le_of_ble_eq_true rfl⟩) ⟨pc_blind, va_recv hK hP (ci := 0) (q0 := 1) rfl rfl, fun U hU hW => ⟨rfl, pc_mk hP hD hK hS hX hT [1] [] rfl rfl rfl rfl hF4 hU hW⟩⟩ rfl rfl hl.1 rfl (lv_room (Nat.le_of_ble_eq_true rfl)) dX9_valuesNow_12 ⟨(Nat.le_of_ble_eq_true rfl), (Nat.le_of_ble_eq_true rfl)⟩) hS (fun q9 _ h9 => hF4 q9 h9) hF4 (fun r7 u6 t6 H6 L6 ht6 hvm6 hw6 hB6 hz6 hk6 hS => ?_)
  obtain ⟨hP, hD, hK⟩ := pq_join (wr := [(h0, .inr (8, [.int 0, .ref h1, .ref o0, .ref o1, .ref o2, .int 0])), (h2, .inl (kc0, 10, .inr (.inr (.inr (.inr (va_up (va_up (va_up (va_up (va_up (fun _ => none) 0 (some h3)) 1 (some h4)) 2 (some h5)) 3 (some h6)) 4 (some h7))))))), (h3, .inr (7, [.int 105, .int 120, .int 0, .int (-1), .int 0, .int (-1)])), (h4, .inr (7, [.int 105, .int 120, .int 0, .int (-1), .int 0, .int (-1)])), (h5, .inr (7, [.int 105, .int 120, .int 0, .int (-1), .int 0, .int (-1)])), (h6, .inr (7, [.int 105, .int 120, .int 0, .int (-1), .int 0, .int (-1)])), (h7, .inr (7, [.int 105, .int 120, .int 0, .int (-1), .int 0, .int (-1)])), (a1, .inl (k2, 40, .inl (fun _ => 0)))]) (tr := [(kc0, .object "java/lang/Object"), (k2, .char)]) (wz := [(h0, .inr (8, [.int 0, .ref h1, .ref o0, .ref o1, .ref o2, .int 0])), (h2, .inl (kc0, 10, .inr (.inr (.inr (.inr (va_up (va_up (va_up (va_up (va_up (fun _ => none) 0 (some h3)) 1 (some h4)) 2 (some h5)) 3 (some h6)) 4 (some h7))))))), (h3, .inr (7, [.int 105, .int 120, .int 0, .int (-1), .int 0, .int (-1)])), (h4, .inr (7, [.int 105, .int 120, .int 0, .int (-1), .int 0, .int (-1)])), (h5, .inr (7, [.int 105, .int 120, .int 0, .int (-1), .int 0, .int (-1)])), (h6, .inr (7, [.int 105, .int 120, .int 0, .int (-1), .int 0, .int (-1)])), (h7, .inr (7, [.int 105, .int 120, .int 0, .int (-1), .int 0, .int (-1)])), (a1, .inl (k2, 40, .inl (fun _ => 0))), (h1, .inr (0, [.int 5, .ref h2, .int 5]))]) (tz := [(kc0, .object "java/lang/Object"), (k2, .char)]) hP hD hK [1] [0, 2, 3, 4, 5, 6, 7, 8] [0, 1] rfl rfl (by decide) (by decide) rfl hk6 hF4 hB6.1 ht6 hvm6 rfl rfl
  have hG : s.heap.size + 1 ≤ H6.size := Nat.le_trans hG hz6
  refine W.eq (g2 := F0 m 15 ls [.int 5, .int 0]) (by rw [hw6]) ?_
  refine lv_icmp_ge (tgt := 41) hx hb dX9_valuesNow_15 (by decide) (fun cz => absurd cz (by decide)) (fun _ => ?_)
  refine lv_aload_n hx hb dX9_valuesNow_18 rfl (lv_at hl 1 rfl) ?_
  refine lv_iload_n hx hb dX9_valuesNow_19 rfl (lv_at hl 0 rfl) ?_
  refine lv_aload_n hx hb dX9_valuesNow_20 rfl (lv_at hl 2 rfl) ?_
  refine va_get (D := (dC, dI)) (ci := 8) (v := .ref h1) (C := RX9) (T := TX9) (N := 6) hx hb hts in_X9 hown hK hP 0 rfl rfl 1 (by decide) (hts _ q_64) (fun _ h9 => h9) rfl dX9_valuesNow_21 ?_
  refine lv_iload_n hx hb dX9_valuesNow_24 rfl (lv_at hl 0 rfl) ?_
  have hF8 := va_free (wc := [(h1, .inr (0, [.int 5, .ref h2, .int 5])), (h2, .inl (kc0, 10, .inr (.inr (.inr (.inr (va_up (va_up (va_up (va_up (va_up (fun _ => none) 0 (some h3)) 1 (some h4)) 2 (some h5)) 3 (some h6)) 4 (some h7)))))))]) hD hS hA [8, 1] rfl
  refine va_callr (va_runV (As := [.int 0]) (rest := [.int 0, .ref a1]) ⟨hx, hb, hml, hown, hts⟩ (k368_get l hl9 dC dI z h1 h2 h3 h4 h5 h6 h7 H6.size kc0) (cwV 1 hts (gV q_315 q_157 q_158 q_12 q_155) rfl rfl rfl (by decide +kernel) ⟨Nat.le_of_ble_eq_true rfl, Nat.le_of_ble_eq_true rfl⟩) ⟨pc_blind, va_recv hK hP (ci := 0) (q0 := 8) rfl rfl, fun U hU hW => ⟨rfl, pc_mk hP hD hK hS hX hT [8, 1] [0] rfl rfl rfl rfl hF8 hU hW⟩⟩ rfl rfl hl.1 rfl (lv_room (Nat.le_of_ble_eq_true rfl)) dX9_valuesNow_25 ⟨(Nat.le_of_ble_eq_true rfl), (Nat.le_of_ble_eq_true rfl)⟩) hS (fun q9 _ h9 => hF8 q9 h9) hF8 (fun u10 r11 t10 H10 L10 ht10 hvm10 hw10 hB10 hz10 hk10 hS => ?_)
  obtain ⟨hr10, hB10⟩ := hB10
  obtain ⟨hP, hD, hK⟩ := pq_join (wr := [(h0, .inr (8, [.int 0, .ref h1, .ref o0, .ref o1, .ref o2, .int 0])), (h3, .inr (7, [.int 105, .int 120, .int 0, .int (-1), .int 0, .int (-1)])), (h4, .inr (7, [.int 105, .int 120, .int 0, .int (-1), .int 0, .int (-1)])), (h5, .inr (7, [.int 105, .int 120, .int 0, .int (-1), .int 0, .int (-1)])), (h6, .inr (7, [.int 105, .int 120, .int 0, .int (-1), .int 0, .int (-1)])), (h7, .inr (7, [.int 105, .int 120, .int 0, .int (-1), .int 0, .int (-1)])), (a1, .inl (k2, 40, .inl (fun _ => 0)))]) (tr := [(k2, .char)]) (wz := [(h0, .inr (8, [.int 0, .ref h1, .ref o0, .ref o1, .ref o2, .int 0])), (h3, .inr (7, [.int 105, .int 120, .int 0, .int (-1), .int 0, .int (-1)])), (h4, .inr (7, [.int 105, .int 120, .int 0, .int (-1), .int 0, .int (-1)])), (h5, .inr (7, [.int 105, .int 120, .int 0, .int (-1), .int 0, .int (-1)])), (h6, .inr (7, [.int 105, .int 120, .int 0, .int (-1), .int 0, .int (-1)])), (h7, .inr (7, [.int 105, .int 120, .int 0, .int (-1), .int 0, .int (-1)])), (a1, .inl (k2, 40, .inl (fun _ => 0))), (h1, .inr (0, [.int 5, .ref h2, .int 5])), (h2, .inl (kc0, 10, .inr (.inr (.inr (.inr (va_up (va_up (va_up (va_up (va_up (fun _ => none) 0 (some h3)) 1 (some h4)) 2 (some h5)) 3 (some h6)) 4 (some h7)))))))]) (tz := [(k2, .char), (kc0, .object "java/lang/Object")]) hP hD hK [8, 1] [0, 2, 3, 4, 5, 6, 7] [1] rfl rfl (by decide) (by decide) rfl hk10 hF8 hB10.1 ht10 hvm10 rfl rfl
  have hG : s.heap.size + 1 ≤ H10.size := Nat.le_trans hG hz10
  refine W.eq (g2 := F0 m 28 ls [.ref h3, .int 0, .ref a1]) (by rw [hr10]) ?_
  refine va_castE (nm := RX8) hx hb hown (hts _ q_273) (va_recv hK hP (ci := 7) (q0 := 1) rfl rfl) dX9_valuesNow_28 ?_
  refine va_get (D := (dC, dI)) (ci := 7) (v := .int 120) (C := RX8) (T := TX8) (N := 6) hx hb hts in_X8 hown hK hP 1 rfl rfl 1 (by decide) (hts _ q_311) (fun _ h9 => h9) rfl dX9_valuesNow_31 ?_
  refine va_cast hx hb hK hP hD (va_Sre hS) 6 0 rfl rfl (i := 0) (by unfold vp_in; decide) dX9_valuesNow_34 (fun H12 _ hP hD hS' => ?_)
  have hG : s.heap.size + 1 ≤ H12.size := Nat.le_trans hG hS'.1
  have hS := va_Str hS hS'
  have hP : va_P (dC, dI) xCl [(h0, .inr (8, [.int 0, .ref h1, .ref o0, .ref o1, .ref o2, .int 0])), (h3, .inr (7, [.int 105, .int 120, .int 0, .int (-1), .int 0, .int (-1)])), (h4, .inr (7, [.int 105, .int 120, .int 0, .int (-1), .int 0, .int (-1)])), (h5, .inr (7, [.int 105, .int 120, .int 0, .int (-1), .int 0, .int (-1)])), (h6, .inr (7, [.int 105, .int 120, .int 0, .int (-1), .int 0, .int (-1)])), (h7, .inr (7, [.int 105, .int 120, .int 0, .int (-1), .int 0, .int (-1)])), (a1, .inl (k2, 40, .inl (upd (fun _ => 0) 0 120))), (h1, .inr (0, [.int 5, .ref h2, .int 5])), (h2, .inl (kc0, 10, .inr (.inr (.inr (.inr (va_up (va_up (va_up (va_up (va_up (fun _ => none) 0 (some h3)) 1 (some h4)) 2 (some h5)) 3 (some h6)) 4 (some h7)))))))] H12 := hP
  have hD : va_D A [(h0, .inr (8, [.int 0, .ref h1, .ref o0, .ref o1, .ref o2, .int 0])), (h3, .inr (7, [.int 105, .int 120, .int 0, .int (-1), .int 0, .int (-1)])), (h4, .inr (7, [.int 105, .int 120, .int 0, .int (-1), .int 0, .int (-1)])), (h5, .inr (7, [.int 105, .int 120, .int 0, .int (-1), .int 0, .int (-1)])), (h6, .inr (7, [.int 105, .int 120, .int 0, .int (-1), .int 0, .int (-1)])), (h7, .inr (7, [.int 105, .int 120, .int 0, .int (-1), .int 0, .int (-1)])), (a1, .inl (k2, 40, .inl (upd (fun _ => 0) 0 120))), (h1, .inr (0, [.int 5, .ref h2, .int 5])), (h2, .inl (kc0, 10, .inr (.inr (.inr (.inr (va_up (va_up (va_up (va_up (va_up (fun _ => none) 0 (some h3)) 1 (some h4)) 2 (some h5)) 3 (some h6)) 4 (some h7)))))))] := hD
  refine lv_iinc (v := 1) (lv' := [(2, .int 1), (1, .ref a1), (0, .ref h0)]) hx hb dX9_valuesNow_35 hl (k := 0) rfl (by decide) (by decide) rfl (fun ls hl => ?_)
  refine lv_goto (tgt := 7) hx hb dX9_valuesNow_38 (by decide) ?_
  refine lv_iload_n hx hb dX9_valuesNow_7 rfl (lv_at hl 0 rfl) ?_
  refine lv_aload_n hx hb dX9_valuesNow_8 rfl (lv_at hl 2 rfl) ?_
  refine va_get (D := (dC, dI)) (ci := 8) (v := .ref h1) (C := RX9) (T := TX9) (N := 6) hx hb hts in_X9 hown hK hP 0 rfl rfl 1 (by decide) (hts _ q_64) (fun _ h9 => h9) rfl dX9_valuesNow_9 ?_
  have hF13 := va_free (wc := [(h1, .inr (0, [.int 5, .ref h2, .int 5]))]) hD hS hA [7] rfl
  refine va_calli (va_runV (As := []) (rest := [.int 1]) ⟨hx, hb, hml, hown, hts⟩ (k20_size l hl9 dC dI z h1 h2 H12.size 5 5) (cwV 0 hts (gV q_272 q_77 q_78 q_12 q_75) rfl rfl rfl (by decide +kernel) ⟨Nat.le_of_ble_eq_true rfl, Nat.le_of_ble_eq_true rfl⟩) ⟨pc_blind, va_recv hK hP (ci := 0) (q0 := 7) rfl rfl, fun U hU hW => ⟨rfl, pc_mk hP hD hK hS hX hT [7] [] rfl rfl rfl rfl hF13 hU hW⟩⟩ rfl rfl hl.1 rfl (lv_room (Nat.le_of_ble_eq_true rfl)) dX9_valuesNow_12 ⟨(Nat.le_of_ble_eq_true rfl), (Nat.le_of_ble_eq_true rfl)⟩) hS (fun q9 _ h9 => hF13 q9 h9) hF13 (fun r16 u15 t15 H15 L15 ht15 hvm15 hw15 hB15 hz15 hk15 hS => ?_)
  obtain ⟨hP, hD, hK⟩ := pq_join (wr := [(h0, .inr (8, [.int 0, .ref h1, .ref o0, .ref o1, .ref o2, .int 0])), (h3, .inr (7, [.int 105, .int 120, .int 0, .int (-1), .int 0, .int (-1)])), (h4, .inr (7, [.int 105, .int 120, .int 0, .int (-1), .int 0, .int (-1)])), (h5, .inr (7, [.int 105, .int 120, .int 0, .int (-1), .int 0, .int (-1)])), (h6, .inr (7, [.int 105, .int 120, .int 0, .int (-1), .int 0, .int (-1)])), (h7, .inr (7, [.int 105, .int 120, .int 0, .int (-1), .int 0, .int (-1)])), (a1, .inl (k2, 40, .inl (upd (fun _ => 0) 0 120))), (h2, .inl (kc0, 10, .inr (.inr (.inr (.inr (va_up (va_up (va_up (va_up (va_up (fun _ => none) 0 (some h3)) 1 (some h4)) 2 (some h5)) 3 (some h6)) 4 (some h7)))))))]) (tr := [(k2, .char), (kc0, .object "java/lang/Object")]) (wz := [(h0, .inr (8, [.int 0, .ref h1, .ref o0, .ref o1, .ref o2, .int 0])), (h3, .inr (7, [.int 105, .int 120, .int 0, .int (-1), .int 0, .int (-1)])), (h4, .inr (7, [.int 105, .int 120, .int 0, .int (-1), .int 0, .int (-1)])), (h5, .inr (7, [.int 105, .int 120, .int 0, .int (-1), .int 0, .int (-1)])), (h6, .inr (7, [.int 105, .int 120, .int 0, .int (-1), .int 0, .int (-1)])), (h7, .inr (7, [.int 105, .int 120, .int 0, .int (-1), .int 0, .int (-1)])), (a1, .inl (k2, 40, .inl (upd (fun _ => 0) 0 120))), (h2, .inl (kc0, 10, .inr (.inr (.inr (.inr (va_up (va_up (va_up (va_up (va_up (fun _ => none) 0 (some h3)) 1 (some h4)) 2 (some h5)) 3 (some h6)) 4 (some h7))))))), (h1, .inr (0, [.int 5, .ref h2, .int 5]))]) (tz := [(k2, .char), (kc0, .object "java/lang/Object")]) hP hD hK [7] [0, 1, 2, 3, 4, 5, 6, 8] [0, 1] rfl rfl (by decide) (by decide) rfl hk15 hF13 hB15.1 ht15 hvm15 rfl rfl
  have hG : s.heap.size + 1 ≤ H15.size := Nat.le_trans hG hz15
  refine W.eq (g2 := F0 m 15 ls [.int 5, .int 1]) (by rw [hw15]) ?_
  refine lv_icmp_ge (tgt := 41) hx hb dX9_valuesNow_15 (by decide) (fun cz => absurd cz (by decide)) (fun _ => ?_)
  refine lv_aload_n hx hb dX9_valuesNow_18 rfl (lv_at hl 1 rfl) ?_
  refine lv_iload_n hx hb dX9_valuesNow_19 rfl (lv_at hl 0 rfl) ?_
  refine lv_aload_n hx hb dX9_valuesNow_20 rfl (lv_at hl 2 rfl) ?_
  refine va_get (D := (dC, dI)) (ci := 8) (v := .ref h1) (C := RX9) (T := TX9) (N := 6) hx hb hts in_X9 hown hK hP 0 rfl rfl 1 (by decide) (hts _ q_64) (fun _ h9 => h9) rfl dX9_valuesNow_21 ?_
  refine lv_iload_n hx hb dX9_valuesNow_24 rfl (lv_at hl 0 rfl) ?_
  have hF17 := va_free (wc := [(h1, .inr (0, [.int 5, .ref h2, .int 5])), (h2, .inl (kc0, 10, .inr (.inr (.inr (.inr (va_up (va_up (va_up (va_up (va_up (fun _ => none) 0 (some h3)) 1 (some h4)) 2 (some h5)) 3 (some h6)) 4 (some h7)))))))]) hD hS hA [8, 7] rfl
  refine va_callr (va_runV (As := [.int 1]) (rest := [.int 1, .ref a1]) ⟨hx, hb, hml, hown, hts⟩ (k372_get l hl9 dC dI z h1 h2 h3 h4 h5 h6 h7 H15.size kc0) (cwV 1 hts (gV q_315 q_157 q_158 q_12 q_155) rfl rfl rfl (by decide +kernel) ⟨Nat.le_of_ble_eq_true rfl, Nat.le_of_ble_eq_true rfl⟩) ⟨pc_blind, va_recv hK hP (ci := 0) (q0 := 8) rfl rfl, fun U hU hW => ⟨rfl, pc_mk hP hD hK hS hX hT [8, 7] [1] rfl rfl rfl rfl hF17 hU hW⟩⟩ rfl rfl hl.1 rfl (lv_room (Nat.le_of_ble_eq_true rfl)) dX9_valuesNow_25 ⟨(Nat.le_of_ble_eq_true rfl), (Nat.le_of_ble_eq_true rfl)⟩) hS (fun q9 _ h9 => hF17 q9 h9) hF17 (fun u19 r20 t19 H19 L19 ht19 hvm19 hw19 hB19 hz19 hk19 hS => ?_)
  obtain ⟨hr19, hB19⟩ := hB19
  obtain ⟨hP, hD, hK⟩ := pq_join (wr := [(h0, .inr (8, [.int 0, .ref h1, .ref o0, .ref o1, .ref o2, .int 0])), (h3, .inr (7, [.int 105, .int 120, .int 0, .int (-1), .int 0, .int (-1)])), (h4, .inr (7, [.int 105, .int 120, .int 0, .int (-1), .int 0, .int (-1)])), (h5, .inr (7, [.int 105, .int 120, .int 0, .int (-1), .int 0, .int (-1)])), (h6, .inr (7, [.int 105, .int 120, .int 0, .int (-1), .int 0, .int (-1)])), (h7, .inr (7, [.int 105, .int 120, .int 0, .int (-1), .int 0, .int (-1)])), (a1, .inl (k2, 40, .inl (upd (fun _ => 0) 0 120)))]) (tr := [(k2, .char)]) (wz := [(h0, .inr (8, [.int 0, .ref h1, .ref o0, .ref o1, .ref o2, .int 0])), (h3, .inr (7, [.int 105, .int 120, .int 0, .int (-1), .int 0, .int (-1)])), (h4, .inr (7, [.int 105, .int 120, .int 0, .int (-1), .int 0, .int (-1)])), (h5, .inr (7, [.int 105, .int 120, .int 0, .int (-1), .int 0, .int (-1)])), (h6, .inr (7, [.int 105, .int 120, .int 0, .int (-1), .int 0, .int (-1)])), (h7, .inr (7, [.int 105, .int 120, .int 0, .int (-1), .int 0, .int (-1)])), (a1, .inl (k2, 40, .inl (upd (fun _ => 0) 0 120))), (h1, .inr (0, [.int 5, .ref h2, .int 5])), (h2, .inl (kc0, 10, .inr (.inr (.inr (.inr (va_up (va_up (va_up (va_up (va_up (fun _ => none) 0 (some h3)) 1 (some h4)) 2 (some h5)) 3 (some h6)) 4 (some h7)))))))]) (tz := [(k2, .char), (kc0, .object "java/lang/Object")]) hP hD hK [8, 7] [0, 1, 2, 3, 4, 5, 6] [0] rfl rfl (by decide) (by decide) rfl hk19 hF17 hB19.1 ht19 hvm19 rfl rfl
  have hG : s.heap.size + 1 ≤ H19.size := Nat.le_trans hG hz19
  refine W.eq (g2 := F0 m 28 ls [.ref h4, .int 1, .ref a1]) (by rw [hr19]) ?_
  refine va_castE (nm := RX8) hx hb hown (hts _ q_273) (va_recv hK hP (ci := 7) (q0 := 2) rfl rfl) dX9_valuesNow_28 ?_
  refine va_get (D := (dC, dI)) (ci := 7) (v := .int 120) (C := RX8) (T := TX8) (N := 6) hx hb hts in_X8 hown hK hP 2 rfl rfl 1 (by decide) (hts _ q_311) (fun _ h9 => h9) rfl dX9_valuesNow_31 ?_
  refine va_cast hx hb hK hP hD (va_Sre hS) 6 0 rfl rfl (i := 1) (by unfold vp_in; decide) dX9_valuesNow_34 (fun H21 _ hP hD hS' => ?_)
  have hG : s.heap.size + 1 ≤ H21.size := Nat.le_trans hG hS'.1
  have hS := va_Str hS hS'
  have hP : va_P (dC, dI) xCl [(h0, .inr (8, [.int 0, .ref h1, .ref o0, .ref o1, .ref o2, .int 0])), (h3, .inr (7, [.int 105, .int 120, .int 0, .int (-1), .int 0, .int (-1)])), (h4, .inr (7, [.int 105, .int 120, .int 0, .int (-1), .int 0, .int (-1)])), (h5, .inr (7, [.int 105, .int 120, .int 0, .int (-1), .int 0, .int (-1)])), (h6, .inr (7, [.int 105, .int 120, .int 0, .int (-1), .int 0, .int (-1)])), (h7, .inr (7, [.int 105, .int 120, .int 0, .int (-1), .int 0, .int (-1)])), (a1, .inl (k2, 40, .inl (upd (upd (fun _ => 0) 0 120) 1 120))), (h1, .inr (0, [.int 5, .ref h2, .int 5])), (h2, .inl (kc0, 10, .inr (.inr (.inr (.inr (va_up (va_up (va_up (va_up (va_up (fun _ => none) 0 (some h3)) 1 (some h4)) 2 (some h5)) 3 (some h6)) 4 (some h7)))))))] H21 := hP
  have hD : va_D A [(h0, .inr (8, [.int 0, .ref h1, .ref o0, .ref o1, .ref o2, .int 0])), (h3, .inr (7, [.int 105, .int 120, .int 0, .int (-1), .int 0, .int (-1)])), (h4, .inr (7, [.int 105, .int 120, .int 0, .int (-1), .int 0, .int (-1)])), (h5, .inr (7, [.int 105, .int 120, .int 0, .int (-1), .int 0, .int (-1)])), (h6, .inr (7, [.int 105, .int 120, .int 0, .int (-1), .int 0, .int (-1)])), (h7, .inr (7, [.int 105, .int 120, .int 0, .int (-1), .int 0, .int (-1)])), (a1, .inl (k2, 40, .inl (upd (upd (fun _ => 0) 0 120) 1 120))), (h1, .inr (0, [.int 5, .ref h2, .int 5])), (h2, .inl (kc0, 10, .inr (.inr (.inr (.inr (va_up (va_up (va_up (va_up (va_up (fun _ => none) 0 (some h3)) 1 (some h4)) 2 (some h5)) 3 (some h6)) 4 (some h7)))))))] := hD
  refine lv_iinc (v := 2) (lv' := [(2, .int 2), (1, .ref a1), (0, .ref h0)]) hx hb dX9_valuesNow_35 hl (k := 0) rfl (by decide) (by decide) rfl (fun ls hl => ?_)
  refine lv_goto (tgt := 7) hx hb dX9_valuesNow_38 (by decide) ?_
  refine lv_iload_n hx hb dX9_valuesNow_7 rfl (lv_at hl 0 rfl) ?_
  refine lv_aload_n hx hb dX9_valuesNow_8 rfl (lv_at hl 2 rfl) ?_
  refine va_get (D := (dC, dI)) (ci := 8) (v := .ref h1) (C := RX9) (T := TX9) (N := 6) hx hb hts in_X9 hown hK hP 0 rfl rfl 1 (by decide) (hts _ q_64) (fun _ h9 => h9) rfl dX9_valuesNow_9 ?_
  have hF22 := va_free (wc := [(h1, .inr (0, [.int 5, .ref h2, .int 5]))]) hD hS hA [7] rfl
  refine va_calli (va_runV (As := []) (rest := [.int 2]) ⟨hx, hb, hml, hown, hts⟩ (k20_size l hl9 dC dI z h1 h2 H21.size 5 5) (cwV 0 hts (gV q_272 q_77 q_78 q_12 q_75) rfl rfl rfl (by decide +kernel) ⟨Nat.le_of_ble_eq_true rfl, Nat.le_of_ble_eq_true rfl⟩) ⟨pc_blind, va_recv hK hP (ci := 0) (q0 := 7) rfl rfl, fun U hU hW => ⟨rfl, pc_mk hP hD hK hS hX hT [7] [] rfl rfl rfl rfl hF22 hU hW⟩⟩ rfl rfl hl.1 rfl (lv_room (Nat.le_of_ble_eq_true rfl)) dX9_valuesNow_12 ⟨(Nat.le_of_ble_eq_true rfl), (Nat.le_of_ble_eq_true rfl)⟩) hS (fun q9 _ h9 => hF22 q9 h9) hF22 (fun r25 u24 t24 H24 L24 ht24 hvm24 hw24 hB24 hz24 hk24 hS => ?_)
  obtain ⟨hP, hD, hK⟩ := pq_join (wr := [(h0, .inr (8, [.int 0, .ref h1, .ref o0, .ref o1, .ref o2, .int 0])), (h3, .inr (7, [.int 105, .int 120, .int 0, .int (-1), .int 0, .int (-1)])), (h4, .inr (7, [.int 105, .int 120, .int 0, .int (-1), .int 0, .int (-1)])), (h5, .inr (7, [.int 105, .int 120, .int 0, .int (-1), .int 0, .int (-1)])), (h6, .inr (7, [.int 105, .int 120, .int 0, .int (-1), .int 0, .int (-1)])), (h7, .inr (7, [.int 105, .int 120, .int 0, .int (-1), .int 0, .int (-1)])), (a1, .inl (k2, 40, .inl (upd (upd (fun _ => 0) 0 120) 1 120))), (h2, .inl (kc0, 10, .inr (.inr (.inr (.inr (va_up (va_up (va_up (va_up (va_up (fun _ => none) 0 (some h3)) 1 (some h4)) 2 (some h5)) 3 (some h6)) 4 (some h7)))))))]) (tr := [(k2, .char), (kc0, .object "java/lang/Object")]) (wz := [(h0, .inr (8, [.int 0, .ref h1, .ref o0, .ref o1, .ref o2, .int 0])), (h3, .inr (7, [.int 105, .int 120, .int 0, .int (-1), .int 0, .int (-1)])), (h4, .inr (7, [.int 105, .int 120, .int 0, .int (-1), .int 0, .int (-1)])), (h5, .inr (7, [.int 105, .int 120, .int 0, .int (-1), .int 0, .int (-1)])), (h6, .inr (7, [.int 105, .int 120, .int 0, .int (-1), .int 0, .int (-1)])), (h7, .inr (7, [.int 105, .int 120, .int 0, .int (-1), .int 0, .int (-1)])), (a1, .inl (k2, 40, .inl (upd (upd (fun _ => 0) 0 120) 1 120))), (h2, .inl (kc0, 10, .inr (.inr (.inr (.inr (va_up (va_up (va_up (va_up (va_up (fun _ => none) 0 (some h3)) 1 (some h4)) 2 (some h5)) 3 (some h6)) 4 (some h7))))))), (h1, .inr (0, [.int 5, .ref h2, .int 5]))]) (tz := [(k2, .char), (kc0, .object "java/lang/Object")]) hP hD hK [7] [0, 1, 2, 3, 4, 5, 6, 8] [0, 1] rfl rfl (by decide) (by decide) rfl hk24 hF22 hB24.1 ht24 hvm24 rfl rfl
  have hG : s.heap.size + 1 ≤ H24.size := Nat.le_trans hG hz24
  refine W.eq (g2 := F0 m 15 ls [.int 5, .int 2]) (by rw [hw24]) ?_
  refine lv_icmp_ge (tgt := 41) hx hb dX9_valuesNow_15 (by decide) (fun cz => absurd cz (by decide)) (fun _ => ?_)
  refine lv_aload_n hx hb dX9_valuesNow_18 rfl (lv_at hl 1 rfl) ?_
  refine lv_iload_n hx hb dX9_valuesNow_19 rfl (lv_at hl 0 rfl) ?_
  refine lv_aload_n hx hb dX9_valuesNow_20 rfl (lv_at hl 2 rfl) ?_
  refine va_get (D := (dC, dI)) (ci := 8) (v := .ref h1) (C := RX9) (T := TX9) (N := 6) hx hb hts in_X9 hown hK hP 0 rfl rfl 1 (by decide) (hts _ q_64) (fun _ h9 => h9) rfl dX9_valuesNow_21 ?_
  refine lv_iload_n hx hb dX9_valuesNow_24 rfl (lv_at hl 0 rfl) ?_
  have hF26 := va_free (wc := [(h1, .inr (0, [.int 5, .ref h2, .int 5])), (h2, .inl (kc0, 10, .inr (.inr (.inr (.inr (va_up (va_up (va_up (va_up (va_up (fun _ => none) 0 (some h3)) 1 (some h4)) 2 (some h5)) 3 (some h6)) 4 (some h7)))))))]) hD hS hA [8, 7] rfl
  refine va_callr (va_runV (As := [.int 2]) (rest := [.int 2, .ref a1]) ⟨hx, hb, hml, hown, hts⟩ (k376_get l hl9 dC dI z h1 h2 h3 h4 h5 h6 h7 H24.size kc0) (cwV 1 hts (gV q_315 q_157 q_158 q_12 q_155) rfl rfl rfl (by decide +kernel) ⟨Nat.le_of_ble_eq_true rfl, Nat.le_of_ble_eq_true rfl⟩) ⟨pc_blind, va_recv hK hP (ci := 0) (q0 := 8) rfl rfl, fun U hU hW => ⟨rfl, pc_mk hP hD hK hS hX hT [8, 7] [1] rfl rfl rfl rfl hF26 hU hW⟩⟩ rfl rfl hl.1 rfl (lv_room (Nat.le_of_ble_eq_true rfl)) dX9_valuesNow_25 ⟨(Nat.le_of_ble_eq_true rfl), (Nat.le_of_ble_eq_true rfl)⟩) hS (fun q9 _ h9 => hF26 q9 h9) hF26 (fun u28 r29 t28 H28 L28 ht28 hvm28 hw28 hB28 hz28 hk28 hS => ?_)
  obtain ⟨hr28, hB28⟩ := hB28
  obtain ⟨hP, hD, hK⟩ := pq_join (wr := [(h0, .inr (8, [.int 0, .ref h1, .ref o0, .ref o1, .ref o2, .int 0])), (h3, .inr (7, [.int 105, .int 120, .int 0, .int (-1), .int 0, .int (-1)])), (h4, .inr (7, [.int 105, .int 120, .int 0, .int (-1), .int 0, .int (-1)])), (h5, .inr (7, [.int 105, .int 120, .int 0, .int (-1), .int 0, .int (-1)])), (h6, .inr (7, [.int 105, .int 120, .int 0, .int (-1), .int 0, .int (-1)])), (h7, .inr (7, [.int 105, .int 120, .int 0, .int (-1), .int 0, .int (-1)])), (a1, .inl (k2, 40, .inl (upd (upd (fun _ => 0) 0 120) 1 120)))]) (tr := [(k2, .char)]) (wz := [(h0, .inr (8, [.int 0, .ref h1, .ref o0, .ref o1, .ref o2, .int 0])), (h3, .inr (7, [.int 105, .int 120, .int 0, .int (-1), .int 0, .int (-1)])), (h4, .inr (7, [.int 105, .int 120, .int 0, .int (-1), .int 0, .int (-1)])), (h5, .inr (7, [.int 105, .int 120, .int 0, .int (-1), .int 0, .int (-1)])), (h6, .inr (7, [.int 105, .int 120, .int 0, .int (-1), .int 0, .int (-1)])), (h7, .inr (7, [.int 105, .int 120, .int 0, .int (-1), .int 0, .int (-1)])), (a1, .inl (k2, 40, .inl (upd (upd (fun _ => 0) 0 120) 1 120))), (h1, .inr (0, [.int 5, .ref h2, .int 5])), (h2, .inl (kc0, 10, .inr (.inr (.inr (.inr (va_up (va_up (va_up (va_up (va_up (fun _ => none) 0 (some h3)) 1 (some h4)) 2 (some h5)) 3 (some h6)) 4 (some h7)))))))]) (tz := [(k2, .char), (kc0, .object "java/lang/Object")]) hP hD hK [8, 7] [0, 1, 2, 3, 4, 5, 6] [0] rfl rfl (by decide) (by decide) rfl hk28 hF26 hB28.1 ht28 hvm28 rfl rfl
  have hG : s.heap.size + 1 ≤ H28.size := Nat.le_trans hG hz28
  refine W.eq (g2 := F0 m 28 ls [.ref h5, .int 2, .ref a1]) (by rw [hr28]) ?_
  refine va_castE (nm := RX8) hx hb hown (hts _ q_273) (va_recv hK hP (ci := 7) (q0 := 3) rfl rfl) dX9_valuesNow_28 ?_
  refine va_get (D := (dC, dI)) (ci := 7) (v := .int 120) (C := RX8) (T := TX8) (N := 6) hx hb hts in_X8 hown hK hP 3 rfl rfl 1 (by decide) (hts _ q_311) (fun _ h9 => h9) rfl dX9_valuesNow_31 ?_
  refine va_cast hx hb hK hP hD (va_Sre hS) 6 0 rfl rfl (i := 2) (by unfold vp_in; decide) dX9_valuesNow_34 (fun H30 _ hP hD hS' => ?_)
  have hG : s.heap.size + 1 ≤ H30.size := Nat.le_trans hG hS'.1
  have hS := va_Str hS hS'
  have hP : va_P (dC, dI) xCl [(h0, .inr (8, [.int 0, .ref h1, .ref o0, .ref o1, .ref o2, .int 0])), (h3, .inr (7, [.int 105, .int 120, .int 0, .int (-1), .int 0, .int (-1)])), (h4, .inr (7, [.int 105, .int 120, .int 0, .int (-1), .int 0, .int (-1)])), (h5, .inr (7, [.int 105, .int 120, .int 0, .int (-1), .int 0, .int (-1)])), (h6, .inr (7, [.int 105, .int 120, .int 0, .int (-1), .int 0, .int (-1)])), (h7, .inr (7, [.int 105, .int 120, .int 0, .int (-1), .int 0, .int (-1)])), (a1, .inl (k2, 40, .inl (upd (upd (upd (fun _ => 0) 0 120) 1 120) 2 120))), (h1, .inr (0, [.int 5, .ref h2, .int 5])), (h2, .inl (kc0, 10, .inr (.inr (.inr (.inr (va_up (va_up (va_up (va_up (va_up (fun _ => none) 0 (some h3)) 1 (some h4)) 2 (some h5)) 3 (some h6)) 4 (some h7)))))))] H30 := hP
  have hD : va_D A [(h0, .inr (8, [.int 0, .ref h1, .ref o0, .ref o1, .ref o2, .int 0])), (h3, .inr (7, [.int 105, .int 120, .int 0, .int (-1), .int 0, .int (-1)])), (h4, .inr (7, [.int 105, .int 120, .int 0, .int (-1), .int 0, .int (-1)])), (h5, .inr (7, [.int 105, .int 120, .int 0, .int (-1), .int 0, .int (-1)])), (h6, .inr (7, [.int 105, .int 120, .int 0, .int (-1), .int 0, .int (-1)])), (h7, .inr (7, [.int 105, .int 120, .int 0, .int (-1), .int 0, .int (-1)])), (a1, .inl (k2, 40, .inl (upd (upd (upd (fun _ => 0) 0 120) 1 120) 2 120))), (h1, .inr (0, [.int 5, .ref h2, .int 5])), (h2, .inl (kc0, 10, .inr (.inr (.inr (.inr (va_up (va_up (va_up (va_up (va_up (fun _ => none) 0 (some h3)) 1 (some h4)) 2 (some h5)) 3 (some h6)) 4 (some h7)))))))] := hD
  refine lv_iinc (v := 3) (lv' := [(2, .int 3), (1, .ref a1), (0, .ref h0)]) hx hb dX9_valuesNow_35 hl (k := 0) rfl (by decide) (by decide) rfl (fun ls hl => ?_)
  refine lv_goto (tgt := 7) hx hb dX9_valuesNow_38 (by decide) ?_
  refine lv_iload_n hx hb dX9_valuesNow_7 rfl (lv_at hl 0 rfl) ?_
  refine lv_aload_n hx hb dX9_valuesNow_8 rfl (lv_at hl 2 rfl) ?_
  refine va_get (D := (dC, dI)) (ci := 8) (v := .ref h1) (C := RX9) (T := TX9) (N := 6) hx hb hts in_X9 hown hK hP 0 rfl rfl 1 (by decide) (hts _ q_64) (fun _ h9 => h9) rfl dX9_valuesNow_9 ?_
  have hF31 := va_free (wc := [(h1, .inr (0, [.int 5, .ref h2, .int 5]))]) hD hS hA [7] rfl
  refine va_calli (va_runV (As := []) (rest := [.int 3]) ⟨hx, hb, hml, hown, hts⟩ (k20_size l hl9 dC dI z h1 h2 H30.size 5 5) (cwV 0 hts (gV q_272 q_77 q_78 q_12 q_75) rfl rfl rfl (by decide +kernel) ⟨Nat.le_of_ble_eq_true rfl, Nat.le_of_ble_eq_true rfl⟩) ⟨pc_blind, va_recv hK hP (ci := 0) (q0 := 7) rfl rfl, fun U hU hW => ⟨rfl, pc_mk hP hD hK hS hX hT [7] [] rfl rfl rfl rfl hF31 hU hW⟩⟩ rfl rfl hl.1 rfl (lv_room (Nat.le_of_ble_eq_true rfl)) dX9_valuesNow_12 ⟨(Nat.le_of_ble_eq_true rfl), (Nat.le_of_ble_eq_true rfl)⟩) hS (fun q9 _ h9 => hF31 q9 h9) hF31 (fun r34 u33 t33 H33 L33 ht33 hvm33 hw33 hB33 hz33 hk33 hS => ?_)
  obtain ⟨hP, hD, hK⟩ := pq_join (wr := [(h0, .inr (8, [.int 0, .ref h1, .ref o0, .ref o1, .ref o2, .int 0])), (h3, .inr (7, [.int 105, .int 120, .int 0, .int (-1), .int 0, .int (-1)])), (h4, .inr (7, [.int 105, .int 120, .int 0, .int (-1), .int 0, .int (-1)])), (h5, .inr (7, [.int 105, .int 120, .int 0, .int (-1), .int 0, .int (-1)])), (h6, .inr (7, [.int 105, .int 120, .int 0, .int (-1), .int 0, .int (-1)])), (h7, .inr (7, [.int 105, .int 120, .int 0, .int (-1), .int 0, .int (-1)])), (a1, .inl (k2, 40, .inl (upd (upd (upd (fun _ => 0) 0 120) 1 120) 2 120))), (h2, .inl (kc0, 10, .inr (.inr (.inr (.inr (va_up (va_up (va_up (va_up (va_up (fun _ => none) 0 (some h3)) 1 (some h4)) 2 (some h5)) 3 (some h6)) 4 (some h7)))))))]) (tr := [(k2, .char), (kc0, .object "java/lang/Object")]) (wz := [(h0, .inr (8, [.int 0, .ref h1, .ref o0, .ref o1, .ref o2, .int 0])), (h3, .inr (7, [.int 105, .int 120, .int 0, .int (-1), .int 0, .int (-1)])), (h4, .inr (7, [.int 105, .int 120, .int 0, .int (-1), .int 0, .int (-1)])), (h5, .inr (7, [.int 105, .int 120, .int 0, .int (-1), .int 0, .int (-1)])), (h6, .inr (7, [.int 105, .int 120, .int 0, .int (-1), .int 0, .int (-1)])), (h7, .inr (7, [.int 105, .int 120, .int 0, .int (-1), .int 0, .int (-1)])), (a1, .inl (k2, 40, .inl (upd (upd (upd (fun _ => 0) 0 120) 1 120) 2 120))), (h2, .inl (kc0, 10, .inr (.inr (.inr (.inr (va_up (va_up (va_up (va_up (va_up (fun _ => none) 0 (some h3)) 1 (some h4)) 2 (some h5)) 3 (some h6)) 4 (some h7))))))), (h1, .inr (0, [.int 5, .ref h2, .int 5]))]) (tz := [(k2, .char), (kc0, .object "java/lang/Object")]) hP hD hK [7] [0, 1, 2, 3, 4, 5, 6, 8] [0, 1] rfl rfl (by decide) (by decide) rfl hk33 hF31 hB33.1 ht33 hvm33 rfl rfl
  have hG : s.heap.size + 1 ≤ H33.size := Nat.le_trans hG hz33
  refine W.eq (g2 := F0 m 15 ls [.int 5, .int 3]) (by rw [hw33]) ?_
  refine lv_icmp_ge (tgt := 41) hx hb dX9_valuesNow_15 (by decide) (fun cz => absurd cz (by decide)) (fun _ => ?_)
  refine lv_aload_n hx hb dX9_valuesNow_18 rfl (lv_at hl 1 rfl) ?_
  refine lv_iload_n hx hb dX9_valuesNow_19 rfl (lv_at hl 0 rfl) ?_
  refine lv_aload_n hx hb dX9_valuesNow_20 rfl (lv_at hl 2 rfl) ?_
  refine va_get (D := (dC, dI)) (ci := 8) (v := .ref h1) (C := RX9) (T := TX9) (N := 6) hx hb hts in_X9 hown hK hP 0 rfl rfl 1 (by decide) (hts _ q_64) (fun _ h9 => h9) rfl dX9_valuesNow_21 ?_
  refine lv_iload_n hx hb dX9_valuesNow_24 rfl (lv_at hl 0 rfl) ?_
  have hF35 := va_free (wc := [(h1, .inr (0, [.int 5, .ref h2, .int 5])), (h2, .inl (kc0, 10, .inr (.inr (.inr (.inr (va_up (va_up (va_up (va_up (va_up (fun _ => none) 0 (some h3)) 1 (some h4)) 2 (some h5)) 3 (some h6)) 4 (some h7)))))))]) hD hS hA [8, 7] rfl
  refine va_callr (va_runV (As := [.int 3]) (rest := [.int 3, .ref a1]) ⟨hx, hb, hml, hown, hts⟩ (k380_get l hl9 dC dI z h1 h2 h3 h4 h5 h6 h7 H33.size kc0) (cwV 1 hts (gV q_315 q_157 q_158 q_12 q_155) rfl rfl rfl (by decide +kernel) ⟨Nat.le_of_ble_eq_true rfl, Nat.le_of_ble_eq_true rfl⟩) ⟨pc_blind, va_recv hK hP (ci := 0) (q0 := 8) rfl rfl, fun U hU hW => ⟨rfl, pc_mk hP hD hK hS hX hT [8, 7] [1] rfl rfl rfl rfl hF35 hU hW⟩⟩ rfl rfl hl.1 rfl (lv_room (Nat.le_of_ble_eq_true rfl)) dX9_valuesNow_25 ⟨(Nat.le_of_ble_eq_true rfl), (Nat.le_of_ble_eq_true rfl)⟩) hS (fun q9 _ h9 => hF35 q9 h9) hF35 (fun u37 r38 t37 H37 L37 ht37 hvm37 hw37 hB37 hz37 hk37 hS => ?_)
  obtain ⟨hr37, hB37⟩ := hB37
  obtain ⟨hP, hD, hK⟩ := pq_join (wr := [(h0, .inr (8, [.int 0, .ref h1, .ref o0, .ref o1, .ref o2, .int 0])), (h3, .inr (7, [.int 105, .int 120, .int 0, .int (-1), .int 0, .int (-1)])), (h4, .inr (7, [.int 105, .int 120, .int 0, .int (-1), .int 0, .int (-1)])), (h5, .inr (7, [.int 105, .int 120, .int 0, .int (-1), .int 0, .int (-1)])), (h6, .inr (7, [.int 105, .int 120, .int 0, .int (-1), .int 0, .int (-1)])), (h7, .inr (7, [.int 105, .int 120, .int 0, .int (-1), .int 0, .int (-1)])), (a1, .inl (k2, 40, .inl (upd (upd (upd (fun _ => 0) 0 120) 1 120) 2 120)))]) (tr := [(k2, .char)]) (wz := [(h0, .inr (8, [.int 0, .ref h1, .ref o0, .ref o1, .ref o2, .int 0])), (h3, .inr (7, [.int 105, .int 120, .int 0, .int (-1), .int 0, .int (-1)])), (h4, .inr (7, [.int 105, .int 120, .int 0, .int (-1), .int 0, .int (-1)])), (h5, .inr (7, [.int 105, .int 120, .int 0, .int (-1), .int 0, .int (-1)])), (h6, .inr (7, [.int 105, .int 120, .int 0, .int (-1), .int 0, .int (-1)])), (h7, .inr (7, [.int 105, .int 120, .int 0, .int (-1), .int 0, .int (-1)])), (a1, .inl (k2, 40, .inl (upd (upd (upd (fun _ => 0) 0 120) 1 120) 2 120))), (h1, .inr (0, [.int 5, .ref h2, .int 5])), (h2, .inl (kc0, 10, .inr (.inr (.inr (.inr (va_up (va_up (va_up (va_up (va_up (fun _ => none) 0 (some h3)) 1 (some h4)) 2 (some h5)) 3 (some h6)) 4 (some h7)))))))]) (tz := [(k2, .char), (kc0, .object "java/lang/Object")]) hP hD hK [8, 7] [0, 1, 2, 3, 4, 5, 6] [0] rfl rfl (by decide) (by decide) rfl hk37 hF35 hB37.1 ht37 hvm37 rfl rfl
  have hG : s.heap.size + 1 ≤ H37.size := Nat.le_trans hG hz37
  refine W.eq (g2 := F0 m 28 ls [.ref h6, .int 3, .ref a1]) (by rw [hr37]) ?_
  refine va_castE (nm := RX8) hx hb hown (hts _ q_273) (va_recv hK hP (ci := 7) (q0 := 4) rfl rfl) dX9_valuesNow_28 ?_
  refine va_get (D := (dC, dI)) (ci := 7) (v := .int 120) (C := RX8) (T := TX8) (N := 6) hx hb hts in_X8 hown hK hP 4 rfl rfl 1 (by decide) (hts _ q_311) (fun _ h9 => h9) rfl dX9_valuesNow_31 ?_
  refine va_cast hx hb hK hP hD (va_Sre hS) 6 0 rfl rfl (i := 3) (by unfold vp_in; decide) dX9_valuesNow_34 (fun H39 _ hP hD hS' => ?_)
  have hG : s.heap.size + 1 ≤ H39.size := Nat.le_trans hG hS'.1
  have hS := va_Str hS hS'
  have hP : va_P (dC, dI) xCl [(h0, .inr (8, [.int 0, .ref h1, .ref o0, .ref o1, .ref o2, .int 0])), (h3, .inr (7, [.int 105, .int 120, .int 0, .int (-1), .int 0, .int (-1)])), (h4, .inr (7, [.int 105, .int 120, .int 0, .int (-1), .int 0, .int (-1)])), (h5, .inr (7, [.int 105, .int 120, .int 0, .int (-1), .int 0, .int (-1)])), (h6, .inr (7, [.int 105, .int 120, .int 0, .int (-1), .int 0, .int (-1)])), (h7, .inr (7, [.int 105, .int 120, .int 0, .int (-1), .int 0, .int (-1)])), (a1, .inl (k2, 40, .inl (upd (upd (upd (upd (fun _ => 0) 0 120) 1 120) 2 120) 3 120))), (h1, .inr (0, [.int 5, .ref h2, .int 5])), (h2, .inl (kc0, 10, .inr (.inr (.inr (.inr (va_up (va_up (va_up (va_up (va_up (fun _ => none) 0 (some h3)) 1 (some h4)) 2 (some h5)) 3 (some h6)) 4 (some h7)))))))] H39 := hP
  have hD : va_D A [(h0, .inr (8, [.int 0, .ref h1, .ref o0, .ref o1, .ref o2, .int 0])), (h3, .inr (7, [.int 105, .int 120, .int 0, .int (-1), .int 0, .int (-1)])), (h4, .inr (7, [.int 105, .int 120, .int 0, .int (-1), .int 0, .int (-1)])), (h5, .inr (7, [.int 105, .int 120, .int 0, .int (-1), .int 0, .int (-1)])), (h6, .inr (7, [.int 105, .int 120, .int 0, .int (-1), .int 0, .int (-1)])), (h7, .inr (7, [.int 105, .int 120, .int 0, .int (-1), .int 0, .int (-1)])), (a1, .inl (k2, 40, .inl (upd (upd (upd (upd (fun _ => 0) 0 120) 1 120) 2 120) 3 120))), (h1, .inr (0, [.int 5, .ref h2, .int 5])), (h2, .inl (kc0, 10, .inr (.inr (.inr (.inr (va_up (va_up (va_up (va_up (va_up (fun _ => none) 0 (some h3)) 1 (some h4)) 2 (some h5)) 3 (some h6)) 4 (some h7)))))))] := hD
  refine lv_iinc (v := 4) (lv' := [(2, .int 4), (1, .ref a1), (0, .ref h0)]) hx hb dX9_valuesNow_35 hl (k := 0) rfl (by decide) (by decide) rfl (fun ls hl => ?_)
  refine lv_goto (tgt := 7) hx hb dX9_valuesNow_38 (by decide) ?_
  refine lv_iload_n hx hb dX9_valuesNow_7 rfl (lv_at hl 0 rfl) ?_
  refine lv_aload_n hx hb dX9_valuesNow_8 rfl (lv_at hl 2 rfl) ?_
  refine va_get (D := (dC, dI)) (ci := 8) (v := .ref h1) (C := RX9) (T := TX9) (N := 6) hx hb hts in_X9 hown hK hP 0 rfl rfl 1 (by decide) (hts _ q_64) (fun _ h9 => h9) rfl dX9_valuesNow_9 ?_
  have hF40 := va_free (wc := [(h1, .inr (0, [.int 5, .ref h2, .int 5]))]) hD hS hA [7] rfl
  refine va_calli (va_runV (As := []) (rest := [.int 4]) ⟨hx, hb, hml, hown, hts⟩ (k20_size l hl9 dC dI z h1 h2 H39.size 5 5) (cwV 0 hts (gV q_272 q_77 q_78 q_12 q_75) rfl rfl rfl (by decide +kernel) ⟨Nat.le_of_ble_eq_true rfl, Nat.le_of_ble_eq_true rfl⟩) ⟨pc_blind, va_recv hK hP (ci := 0) (q0 := 7) rfl rfl, fun U hU hW => ⟨rfl, pc_mk hP hD hK hS hX hT [7] [] rfl rfl rfl rfl hF40 hU hW⟩⟩ rfl rfl hl.1 rfl (lv_room (Nat.le_of_ble_eq_true rfl)) dX9_valuesNow_12 ⟨(Nat.le_of_ble_eq_true rfl), (Nat.le_of_ble_eq_true rfl)⟩) hS (fun q9 _ h9 => hF40 q9 h9) hF40 (fun r43 u42 t42 H42 L42 ht42 hvm42 hw42 hB42 hz42 hk42 hS => ?_)
  obtain ⟨hP, hD, hK⟩ := pq_join (wr := [(h0, .inr (8, [.int 0, .ref h1, .ref o0, .ref o1, .ref o2, .int 0])), (h3, .inr (7, [.int 105, .int 120, .int 0, .int (-1), .int 0, .int (-1)])), (h4, .inr (7, [.int 105, .int 120, .int 0, .int (-1), .int 0, .int (-1)])), (h5, .inr (7, [.int 105, .int 120, .int 0, .int (-1), .int 0, .int (-1)])), (h6, .inr (7, [.int 105, .int 120, .int 0, .int (-1), .int 0, .int (-1)])), (h7, .inr (7, [.int 105, .int 120, .int 0, .int (-1), .int 0, .int (-1)])), (a1, .inl (k2, 40, .inl (upd (upd (upd (upd (fun _ => 0) 0 120) 1 120) 2 120) 3 120))), (h2, .inl (kc0, 10, .inr (.inr (.inr (.inr (va_up (va_up (va_up (va_up (va_up (fun _ => none) 0 (some h3)) 1 (some h4)) 2 (some h5)) 3 (some h6)) 4 (some h7)))))))]) (tr := [(k2, .char), (kc0, .object "java/lang/Object")]) (wz := [(h0, .inr (8, [.int 0, .ref h1, .ref o0, .ref o1, .ref o2, .int 0])), (h3, .inr (7, [.int 105, .int 120, .int 0, .int (-1), .int 0, .int (-1)])), (h4, .inr (7, [.int 105, .int 120, .int 0, .int (-1), .int 0, .int (-1)])), (h5, .inr (7, [.int 105, .int 120, .int 0, .int (-1), .int 0, .int (-1)])), (h6, .inr (7, [.int 105, .int 120, .int 0, .int (-1), .int 0, .int (-1)])), (h7, .inr (7, [.int 105, .int 120, .int 0, .int (-1), .int 0, .int (-1)])), (a1, .inl (k2, 40, .inl (upd (upd (upd (upd (fun _ => 0) 0 120) 1 120) 2 120) 3 120))), (h2, .inl (kc0, 10, .inr (.inr (.inr (.inr (va_up (va_up (va_up (va_up (va_up (fun _ => none) 0 (some h3)) 1 (some h4)) 2 (some h5)) 3 (some h6)) 4 (some h7))))))), (h1, .inr (0, [.int 5, .ref h2, .int 5]))]) (tz := [(k2, .char), (kc0, .object "java/lang/Object")]) hP hD hK [7] [0, 1, 2, 3, 4, 5, 6, 8] [0, 1] rfl rfl (by decide) (by decide) rfl hk42 hF40 hB42.1 ht42 hvm42 rfl rfl
  have hG : s.heap.size + 1 ≤ H42.size := Nat.le_trans hG hz42
  refine W.eq (g2 := F0 m 15 ls [.int 5, .int 4]) (by rw [hw42]) ?_
  refine lv_icmp_ge (tgt := 41) hx hb dX9_valuesNow_15 (by decide) (fun cz => absurd cz (by decide)) (fun _ => ?_)
  refine lv_aload_n hx hb dX9_valuesNow_18 rfl (lv_at hl 1 rfl) ?_
  refine lv_iload_n hx hb dX9_valuesNow_19 rfl (lv_at hl 0 rfl) ?_
  refine lv_aload_n hx hb dX9_valuesNow_20 rfl (lv_at hl 2 rfl) ?_
  refine va_get (D := (dC, dI)) (ci := 8) (v := .ref h1) (C := RX9) (T := TX9) (N := 6) hx hb hts in_X9 hown hK hP 0 rfl rfl 1 (by decide) (hts _ q_64) (fun _ h9 => h9) rfl dX9_valuesNow_21 ?_
  refine lv_iload_n hx hb dX9_valuesNow_24 rfl (lv_at hl 0 rfl) ?_
  have hF44 := va_free (wc := [(h1, .inr (0, [.int 5, .ref h2, .int 5])), (h2, .inl (kc0, 10, .inr (.inr (.inr (.inr (va_up (va_up (va_up (va_up (va_up (fun _ => none) 0 (some h3)) 1 (some h4)) 2 (some h5)) 3 (some h6)) 4 (some h7)))))))]) hD hS hA [8, 7] rfl
  refine va_callr (va_runV (As := [.int 4]) (rest := [.int 4, .ref a1]) ⟨hx, hb, hml, hown, hts⟩ (k384_get l hl9 dC dI z h1 h2 h3 h4 h5 h6 h7 H42.size kc0) (cwV 1 hts (gV q_315 q_157 q_158 q_12 q_155) rfl rfl rfl (by decide +kernel) ⟨Nat.le_of_ble_eq_true rfl, Nat.le_of_ble_eq_true rfl⟩) ⟨pc_blind, va_recv hK hP (ci := 0) (q0 := 8) rfl rfl, fun U hU hW => ⟨rfl, pc_mk hP hD hK hS hX hT [8, 7] [1] rfl rfl rfl rfl hF44 hU hW⟩⟩ rfl rfl hl.1 rfl (lv_room (Nat.le_of_ble_eq_true rfl)) dX9_valuesNow_25 ⟨(Nat.le_of_ble_eq_true rfl), (Nat.le_of_ble_eq_true rfl)⟩) hS (fun q9 _ h9 => hF44 q9 h9) hF44 (fun u46 r47 t46 H46 L46 ht46 hvm46 hw46 hB46 hz46 hk46 hS => ?_)
  obtain ⟨hr46, hB46⟩ := hB46
  obtain ⟨hP, hD, hK⟩ := pq_join (wr := [(h0, .inr (8, [.int 0, .ref h1, .ref o0, .ref o1, .ref o2, .int 0])), (h3, .inr (7, [.int 105, .int 120, .int 0, .int (-1), .int 0, .int (-1)])), (h4, .inr (7, [.int 105, .int 120, .int 0, .int (-1), .int 0, .int (-1)])), (h5, .inr (7, [.int 105, .int 120, .int 0, .int (-1), .int 0, .int (-1)])), (h6, .inr (7, [.int 105, .int 120, .int 0, .int (-1), .int 0, .int (-1)])), (h7, .inr (7, [.int 105, .int 120, .int 0, .int (-1), .int 0, .int (-1)])), (a1, .inl (k2, 40, .inl (upd (upd (upd (upd (fun _ => 0) 0 120) 1 120) 2 120) 3 120)))]) (tr := [(k2, .char)]) (wz := [(h0, .inr (8, [.int 0, .ref h1, .ref o0, .ref o1, .ref o2, .int 0])), (h3, .inr (7, [.int 105, .int 120, .int 0, .int (-1), .int 0, .int (-1)])), (h4, .inr (7, [.int 105, .int 120, .int 0, .int (-1), .int 0, .int (-1)])), (h5, .inr (7, [.int 105, .int 120, .int 0, .int (-1), .int 0, .int (-1)])), (h6, .inr (7, [.int 105, .int 120, .int 0, .int (-1), .int 0, .int (-1)])), (h7, .inr (7, [.int 105, .int 120, .int 0, .int (-1), .int 0, .int (-1)])), (a1, .inl (k2, 40, .inl (upd (upd (upd (upd (fun _ => 0) 0 120) 1 120) 2 120) 3 120))), (h1, .inr (0, [.int 5, .ref h2, .int 5])), (h2, .inl (kc0, 10, .inr (.inr (.inr (.inr (va_up (va_up (va_up (va_up (va_up (fun _ => none) 0 (some h3)) 1 (some h4)) 2 (some h5)) 3 (some h6)) 4 (some h7)))))))]) (tz := [(k2, .char), (kc0, .object "java/lang/Object")]) hP hD hK [8, 7] [0, 1, 2, 3, 4, 5, 6] [0] rfl rfl (by decide) (by decide) rfl hk46 hF44 hB46.1 ht46 hvm46 rfl rfl
  have hG : s.heap.size + 1 ≤ H46.size := Nat.le_trans hG hz46
  refine W.eq (g2 := F0 m 28 ls [.ref h7, .int 4, .ref a1]) (by rw [hr46]) ?_
  refine va_castE (nm := RX8) hx hb hown (hts _ q_273) (va_recv hK hP (ci := 7) (q0 := 5) rfl rfl) dX9_valuesNow_28 ?_
  refine va_get (D := (dC, dI)) (ci := 7) (v := .int 120) (C := RX8) (T := TX8) (N := 6) hx hb hts in_X8 hown hK hP 5 rfl rfl 1 (by decide) (hts _ q_311) (fun _ h9 => h9) rfl dX9_valuesNow_31 ?_
  refine va_cast hx hb hK hP hD (va_Sre hS) 6 0 rfl rfl (i := 4) (by unfold vp_in; decide) dX9_valuesNow_34 (fun H48 _ hP hD hS' => ?_)
  have hG : s.heap.size + 1 ≤ H48.size := Nat.le_trans hG hS'.1
  have hS := va_Str hS hS'
  have hP : va_P (dC, dI) xCl [(h0, .inr (8, [.int 0, .ref h1, .ref o0, .ref o1, .ref o2, .int 0])), (h3, .inr (7, [.int 105, .int 120, .int 0, .int (-1), .int 0, .int (-1)])), (h4, .inr (7, [.int 105, .int 120, .int 0, .int (-1), .int 0, .int (-1)])), (h5, .inr (7, [.int 105, .int 120, .int 0, .int (-1), .int 0, .int (-1)])), (h6, .inr (7, [.int 105, .int 120, .int 0, .int (-1), .int 0, .int (-1)])), (h7, .inr (7, [.int 105, .int 120, .int 0, .int (-1), .int 0, .int (-1)])), (a1, .inl (k2, 40, .inl (upd (upd (upd (upd (upd (fun _ => 0) 0 120) 1 120) 2 120) 3 120) 4 120))), (h1, .inr (0, [.int 5, .ref h2, .int 5])), (h2, .inl (kc0, 10, .inr (.inr (.inr (.inr (va_up (va_up (va_up (va_up (va_up (fun _ => none) 0 (some h3)) 1 (some h4)) 2 (some h5)) 3 (some h6)) 4 (some h7)))))))] H48 := hP
  have hD : va_D A [(h0, .inr (8, [.int 0, .ref h1, .ref o0, .ref o1, .ref o2, .int 0])), (h3, .inr (7, [.int 105, .int 120, .int 0, .int (-1), .int 0, .int (-1)])), (h4, .inr (7, [.int 105, .int 120, .int 0, .int (-1), .int 0, .int (-1)])), (h5, .inr (7, [.int 105, .int 120, .int 0, .int (-1), .int 0, .int (-1)])), (h6, .inr (7, [.int 105, .int 120, .int 0, .int (-1), .int 0, .int (-1)])), (h7, .inr (7, [.int 105, .int 120, .int 0, .int (-1), .int 0, .int (-1)])), (a1, .inl (k2, 40, .inl (upd (upd (upd (upd (upd (fun _ => 0) 0 120) 1 120) 2 120) 3 120) 4 120))), (h1, .inr (0, [.int 5, .ref h2, .int 5])), (h2, .inl (kc0, 10, .inr (.inr (.inr (.inr (va_up (va_up (va_up (va_up (va_up (fun _ => none) 0 (some h3)) 1 (some h4)) 2 (some h5)) 3 (some h6)) 4 (some h7)))))))] := hD
  refine lv_iinc (v := 5) (lv' := [(2, .int 5), (1, .ref a1), (0, .ref h0)]) hx hb dX9_valuesNow_35 hl (k := 0) rfl (by decide) (by decide) rfl (fun ls hl => ?_)
  refine lv_goto (tgt := 7) hx hb dX9_valuesNow_38 (by decide) ?_
  refine lv_iload_n hx hb dX9_valuesNow_7 rfl (lv_at hl 0 rfl) ?_
  refine lv_aload_n hx hb dX9_valuesNow_8 rfl (lv_at hl 2 rfl) ?_
  refine va_get (D := (dC, dI)) (ci := 8) (v := .ref h1) (C := RX9) (T := TX9) (N := 6) hx hb hts in_X9 hown hK hP 0 rfl rfl 1 (by decide) (hts _ q_64) (fun _ h9 => h9) rfl dX9_valuesNow_9 ?_
  have hF49 := va_free (wc := [(h1, .inr (0, [.int 5, .ref h2, .int 5]))]) hD hS hA [7] rfl
  refine va_calli (va_runV (As := []) (rest := [.int 5]) ⟨hx, hb, hml, hown, hts⟩ (k20_size l hl9 dC dI z h1 h2 H48.size 5 5) (cwV 0 hts (gV q_272 q_77 q_78 q_12 q_75) rfl rfl rfl (by decide +kernel) ⟨Nat.le_of_ble_eq_true rfl, Nat.le_of_ble_eq_true rfl⟩) ⟨pc_blind, va_recv hK hP (ci := 0) (q0 := 7) rfl rfl, fun U hU hW => ⟨rfl, pc_mk hP hD hK hS hX hT [7] [] rfl rfl rfl rfl hF49 hU hW⟩⟩ rfl rfl hl.1 rfl (lv_room (Nat.le_of_ble_eq_true rfl)) dX9_valuesNow_12 ⟨(Nat.le_of_ble_eq_true rfl), (Nat.le_of_ble_eq_true rfl)⟩) hS (fun q9 _ h9 => hF49 q9 h9) hF49 (fun r52 u51 t51 H51 L51 ht51 hvm51 hw51 hB51 hz51 hk51 hS => ?_)
  obtain ⟨hP, hD, hK⟩ := pq_join (wr := [(h0, .inr (8, [.int 0, .ref h1, .ref o0, .ref o1, .ref o2, .int 0])), (h3, .inr (7, [.int 105, .int 120, .int 0, .int (-1), .int 0, .int (-1)])), (h4, .inr (7, [.int 105, .int 120, .int 0, .int (-1), .int 0, .int (-1)])), (h5, .inr (7, [.int 105, .int 120, .int 0, .int (-1), .int 0, .int (-1)])), (h6, .inr (7, [.int 105, .int 120, .int 0, .int (-1), .int 0, .int (-1)])), (h7, .inr (7, [.int 105, .int 120, .int 0, .int (-1), .int 0, .int (-1)])), (a1, .inl (k2, 40, .inl (upd (upd (upd (upd (upd (fun _ => 0) 0 120) 1 120) 2 120) 3 120) 4 120))), (h2, .inl (kc0, 10, .inr (.inr (.inr (.inr (va_up (va_up (va_up (va_up (va_up (fun _ => none) 0 (some h3)) 1 (some h4)) 2 (some h5)) 3 (some h6)) 4 (some h7)))))))]) (tr := [(k2, .char), (kc0, .object "java/lang/Object")]) (wz := [(h0, .inr (8, [.int 0, .ref h1, .ref o0, .ref o1, .ref o2, .int 0])), (h3, .inr (7, [.int 105, .int 120, .int 0, .int (-1), .int 0, .int (-1)])), (h4, .inr (7, [.int 105, .int 120, .int 0, .int (-1), .int 0, .int (-1)])), (h5, .inr (7, [.int 105, .int 120, .int 0, .int (-1), .int 0, .int (-1)])), (h6, .inr (7, [.int 105, .int 120, .int 0, .int (-1), .int 0, .int (-1)])), (h7, .inr (7, [.int 105, .int 120, .int 0, .int (-1), .int 0, .int (-1)])), (a1, .inl (k2, 40, .inl (upd (upd (upd (upd (upd (fun _ => 0) 0 120) 1 120) 2 120) 3 120) 4 120))), (h2, .inl (kc0, 10, .inr (.inr (.inr (.inr (va_up (va_up (va_up (va_up (va_up (fun _ => none) 0 (some h3)) 1 (some h4)) 2 (some h5)) 3 (some h6)) 4 (some h7))))))), (h1, .inr (0, [.int 5, .ref h2, .int 5]))]) (tz := [(k2, .char), (kc0, .object "java/lang/Object")]) hP hD hK [7] [0, 1, 2, 3, 4, 5, 6, 8] [0, 1] rfl rfl (by decide) (by decide) rfl hk51 hF49 hB51.1 ht51 hvm51 rfl rfl
  have hG : s.heap.size + 1 ≤ H51.size := Nat.le_trans hG hz51
  refine W.eq (g2 := F0 m 15 ls [.int 5, .int 5]) (by rw [hw51]) ?_
  refine lv_icmp_ge (tgt := 41) hx hb dX9_valuesNow_15 (by decide) (fun _ => ?_) (fun cz => absurd (by decide) cz)
  refine lv_aload_n hx hb dX9_valuesNow_41 rfl (lv_at hl 1 rfl) ?_
  exact W.aret (v := .ref a1) hx hb hr (by first | exact Or.inl ⟨_, rfl⟩ | exact Or.inr ⟨_, rfl⟩) (Or.inr ⟨_, rfl⟩) (fun t9 ht9 hW9 => ⟨⟨(), a1, rfl, trivial, ⟨a1, k2, rfl, ⟨pq_mk (wc := [(h0, .inr (8, [.int 0, .ref h1, .ref o0, .ref o1, .ref o2, .int 0])), (h1, .inr (0, [.int 5, .ref h2, .int 5])), (h2, .inl (kc0, 10, .inr (.inr (.inr (.inr (va_up (va_up (va_up (va_up (va_up (fun _ => none) 0 (some h3)) 1 (some h4)) 2 (some h5)) 3 (some h6)) 4 (some h7))))))), (h3, .inr (7, [.int 105, .int 120, .int 0, .int (-1), .int 0, .int (-1)])), (h4, .inr (7, [.int 105, .int 120, .int 0, .int (-1), .int 0, .int (-1)])), (h5, .inr (7, [.int 105, .int 120, .int 0, .int (-1), .int 0, .int (-1)])), (h6, .inr (7, [.int 105, .int 120, .int 0, .int (-1), .int 0, .int (-1)])), (h7, .inr (7, [.int 105, .int 120, .int 0, .int (-1), .int 0, .int (-1)])), (a1, .inl (k2, 40, .inl (upd (upd (upd (upd (upd (fun _ => 0) 0 120) 1 120) 2 120) 3 120) 4 120)))]) (tc := [(kc0, .object "java/lang/Object"), (k2, .char)]) hP hD hK [0, 8, 7, 1, 2, 3, 4, 5, 6] [1, 0] rfl rfl rfl rfl ht9 hW9, by rw [ht9]; exact Nat.le_trans (Nat.add_le_add_left (Nat.le_of_ble_eq_true rfl) _) hG⟩⟩⟩, hS.F ht9⟩) hS.2.2 dX9_valuesNow_42

set_option maxHeartbeats 4000000 in
set_option maxRecDepth 100000 in
theorem k458_init (l : Launch) (hl9 : l.stackTraces = false) (dC : Nat → ClassId) (dI : Nat → Nat → Nat) (z : XZ) (h0 h1 : Nat) (o0 : Nat) (sz : Nat) : Met l yJx35411_init_45d68 (.code yJx35411_init_45d68 cJx35411_init_45d68 2 none :: wsL_law) ({ frames := 1, cells := 0, slots := 0, locals := 16 }) (va_Pc [.ref h0, .ref h1] (PC (dC, dI) [(h0, .inr (1, [.int 0, .int 0, .int 0, .null])), (h1, .inr (0, [.int 20, .ref o0, .int 5]))] [] sz z)) (va_Qv (fun (_ : Unit) => True) (fun (_ : Unit) (t : State) => PG (dC, dI) [(h0, .inr (1, [.int 0, .int (-1), .int 20, .ref h1])), (h1, .inr (0, [.int 20, .ref o0, .int 5]))] [] (va_A [(h0, .inr (1, [.int 0, .int 0, .int 0, .null])), (h1, .inr (0, [.int 20, .ref o0, .int 5]))] sz) sz 0 t) (va_A [(h0, .inr (1, [.int 0, .int 0, .int 0, .null])), (h1, .inr (0, [.int 20, .ref o0, .int 5]))] sz)) 0 0 (va_A [(h0, .inr (1, [.int 0, .int 0, .int 0, .null])), (h1, .inr (0, [.int 20, .ref o0, .int 5]))] sz) := by
  refine Met.ofW (cc := cJx35411_init_45d68) (maxL := 2) (ret := none) (by decide) rfl ?_
  intro p e s m args below meth c s₁ B hml hv
  obtain ⟨rfl, hsz, hP, hK, hD0, hX, hT⟩ := hv
  have hx := B.exec
  have hb := B.bytes
  have hr := B.returns
  have hts0 := atoms_spec (ws := .code yJx35411_init_45d68 cJx35411_init_45d68 2 none :: wsL_law) B.pre
  have hts := xTail hts0
  have hown : s.vm.findClass RJx35411 = some m.cls := findClass_of_methodNamed B.named
  have hlocks := B.notSynchronized
  have hin : meth.name = "<init>" := (name_of_methodNamed B.named B.method).1
  subst hsz
  have hD := hD0.self (sz := s.heap.size)
  generalize hAe : va_A [(h0, .inr (1, [.int 0, .int 0, .int 0, .null])), (h1, .inr (0, [.int 20, .ref o0, .int 5]))] s.heap.size = A at hD hX ⊢
  have hA : ∀ q : Nat, s.heap.size ≤ q → A q := fun q h => by rw [← hAe]; exact Or.inr h
  have hS : va_S A s.heap s.heap [] := va_S.rf
  have hG : s.heap.size + 0 ≤ s.heap.size := Nat.le_refl _
  have hl := lv_entry ([.ref h0, .ref h1]) (n := 2) (Nat.le_of_ble_eq_true rfl)
  rw [lg_entry_eq]
  generalize (lg_sl ([.ref h0, .ref h1]) ++ List.replicate (2 - (lg_sl ([.ref h0, .ref h1])).length) Slot.unset).toArray = ls at hl ⊢
  have hl : lv_has ls 2 [(0, .ref h0), (1, .ref h1)] := hl
  refine lv_aload_n hx hb dJx35411_init_45d68_0 rfl (lv_at hl 0 rfl) ?_
  refine lv_aload_n hx hb dJx35411_init_45d68_1 rfl (lv_at hl 1 rfl) ?_
  refine va_putF (D := (dC, dI)) (ci := 1) (v := .ref h1) (ty := .object "java/util/ArrayList") (C := RJx35411) (T := TJx35411) (N := 4) hx hb hts in_Jx35411 tyJx35411 tyJx35411_ok nmJx35411 hown hK hP hD (va_Sre hS) 0 rfl rfl 3 (by decide) (hts _ q_247) (fun _ h9 => h9) rfl hin rfl (by decide +kernel) rfl rfl (Nat.le_of_ble_eq_true rfl) dJx35411_init_45d68_2 (fun H1 _ hP hD hS' => ?_)
  have hG : s.heap.size + 0 ≤ H1.size := Nat.le_trans hG hS'.1
  have hS := va_Str hS hS'
  have hP : va_P (dC, dI) xCl [(h0, .inr (1, [.int 0, .int 0, .int 0, .ref h1])), (h1, .inr (0, [.int 20, .ref o0, .int 5]))] H1 := hP
  have hD : va_D A [(h0, .inr (1, [.int 0, .int 0, .int 0, .ref h1])), (h1, .inr (0, [.int 20, .ref o0, .int 5]))] := hD
  refine lv_aload_n hx hb dJx35411_init_45d68_5 rfl (lv_at hl 0 rfl) ?_
  refine W.objInit hx hb hown (hts _ q_248) (hts _ q_4) (hts _ q_5) rfl (by rw [hml]; exact hl.1) rfl dJx35411_init_45d68_6 (Nat.le_of_ble_eq_true rfl) (Nat.le_of_ble_eq_true rfl) ?_
  refine W.eq (g2 := F0 m 9 ls []) rfl ?_
  refine lv_aload_n hx hb dJx35411_init_45d68_9 rfl (lv_at hl 0 rfl) ?_
  refine lv_iconst (v := (-1)) hx hb dJx35411_init_45d68_10 (by decide) ?_
  refine va_put (D := (dC, dI)) (ci := 1) (v := .int (-1)) (ty := .int) (C := RJx35411) (T := TJx35411) (N := 4) hx hb hts in_Jx35411 tyJx35411 tyJx35411_ok nmJx35411 hown hK hP hD (va_Sre hS) 0 rfl rfl 1 (by decide) (hts _ q_249) (fun _ h9 => h9) rfl (by decide +kernel) rfl rfl (Nat.le_of_ble_eq_true rfl) dJx35411_init_45d68_11 (fun H2 _ hP hD hS' => ?_)
  have hG : s.heap.size + 0 ≤ H2.size := Nat.le_trans hG hS'.1
  have hS := va_Str hS hS'
  have hP : va_P (dC, dI) xCl [(h0, .inr (1, [.int 0, .int (-1), .int 0, .ref h1])), (h1, .inr (0, [.int 20, .ref o0, .int 5]))] H2 := hP
  have hD : va_D A [(h0, .inr (1, [.int 0, .int (-1), .int 0, .ref h1])), (h1, .inr (0, [.int 20, .ref o0, .int 5]))] := hD
  refine lv_aload_n hx hb dJx35411_init_45d68_14 rfl (lv_at hl 0 rfl) ?_
  refine lv_aload_n hx hb dJx35411_init_45d68_15 rfl (lv_at hl 0 rfl) ?_
  refine va_get (D := (dC, dI)) (ci := 1) (v := .ref h1) (C := RJx35411) (T := TJx35411) (N := 4) hx hb hts in_Jx35411 hown hK hP 0 rfl rfl 3 (by decide) (hts _ q_247) (fun _ h9 => h9) rfl dJx35411_init_45d68_16 ?_
  refine va_get (D := (dC, dI)) (ci := 0) (v := .int 20) (C := RJx4a65c) (T := TJx4a65c) (N := 3) hx hb hts in_Jx4a65c hown hK hP 1 rfl rfl 0 (by decide) (hts _ q_250) (u_same (hts _ q_107)) rfl dJx35411_init_45d68_19 ?_
  refine va_put (D := (dC, dI)) (ci := 1) (v := .int 20) (ty := .int) (C := RJx35411) (T := TJx35411) (N := 4) hx hb hts in_Jx35411 tyJx35411 tyJx35411_ok nmJx35411 hown hK hP hD (va_Sre hS) 0 rfl rfl 2 (by decide) (hts _ q_251) (fun _ h9 => h9) rfl (by decide +kernel) rfl rfl (Nat.le_of_ble_eq_true rfl) dJx35411_init_45d68_22 (fun H3 _ hP hD hS' => ?_)
  have hG : s.heap.size + 0 ≤ H3.size := Nat.le_trans hG hS'.1
  have hS := va_Str hS hS'
  have hP : va_P (dC, dI) xCl [(h0, .inr (1, [.int 0, .int (-1), .int 20, .ref h1])), (h1, .inr (0, [.int 20, .ref o0, .int 5]))] H3 := hP
  have hD : va_D A [(h0, .inr (1, [.int 0, .int (-1), .int 20, .ref h1])), (h1, .inr (0, [.int 20, .ref o0, .int 5]))] := hD
  exact W.vret hx hb hr (fun t9 ht9 hW9 => ⟨⟨(), rfl, trivial, ⟨pq_mk (wc := [(h0, .inr (1, [.int 0, .int (-1), .int 20, .ref h1])), (h1, .inr (0, [.int 20, .ref o0, .int 5]))]) (tc := []) hP hD hK [0, 1] [] rfl rfl rfl rfl ht9 hW9, by rw [ht9]; exact Nat.le_trans (Nat.add_le_add_left (Nat.le_of_ble_eq_true rfl) _) hG⟩⟩, hS.F ht9⟩) hS.2.2 dJx35411_init_45d68_25

set_option maxHeartbeats 4000000 in
set_option maxRecDepth 100000 in
theorem k459_iterator (l : Launch) (hl9 : l.stackTraces = false) (dC : Nat → ClassId) (dI : Nat → Nat → Nat) (z : XZ) (h0 : Nat) (o0 : Nat) (sz : Nat) : Met l yJx4a65c_iterator_32c93 (.code yJx4a65c_iterator_32c93 cJx4a65c_iterator_32c93 1 (some (.object "java/util/Iterator")) :: wsL_law) ({ frames := 2, cells := 1, slots := 4, locals := 37 }) (va_Pc [.ref h0] (PC (dC, dI) [(h0, .inr (0, [.int 20, .ref o0, .int 5]))] [] sz z)) (va_Qr (fun (_ : Unit) => True) (fun (_ : Unit) (ra : Nat) (t : State) => ∃ (n0 : Nat), ra = n0 ∧ PG (dC, dI) [(h0, .inr (0, [.int 20, .ref o0, .int 5])), (n0, .inr (1, [.int 0, .int (-1), .int 20, .ref h0]))] [] (va_A [(h0, .inr (0, [.int 20, .ref o0, .int 5]))] sz) sz 1 t) (va_A [(h0, .inr (0, [.int 20, .ref o0, .int 5]))] sz)) 1 4 (va_A [(h0, .inr (0, [.int 20, .ref o0, .int 5]))] sz) := by
  refine Met.ofW (cc := cJx4a65c_iterator_32c93) (maxL := 1) (ret := (some (.object "java/util/Iterator"))) (by decide) rfl ?_
  intro p e s m args below meth c s₁ B hml hv
  obtain ⟨rfl, hsz, hP, hK, hD0, hX, hT⟩ := hv
  have hx := B.exec
  have hb := B.bytes
  have hr := B.returns
  have hts0 := atoms_spec (ws := .code yJx4a65c_iterator_32c93 cJx4a65c_iterator_32c93 1 (some (.object "java/util/Iterator")) :: wsL_law) B.pre
  have hts := xTail hts0
  have hown : s.vm.findClass RJx4a65c = some m.cls := findClass_of_methodNamed B.named
  have hlocks := B.notSynchronized
  subst hsz
  have hD := hD0.self (sz := s.heap.size)
  generalize hAe : va_A [(h0, .inr (0, [.int 20, .ref o0, .int 5]))] s.heap.size = A at hD hX ⊢
  have hA : ∀ q : Nat, s.heap.size ≤ q → A q := fun q h => by rw [← hAe]; exact Or.inr h
  have hS : va_S A s.heap s.heap [] := va_S.rf
  have hG : s.heap.size + 0 ≤ s.heap.size := Nat.le_refl _
  have hl := lv_entry ([.ref h0]) (n := 1) (Nat.le_of_ble_eq_true rfl)
  rw [lg_entry_eq]
  generalize (lg_sl ([.ref h0]) ++ List.replicate (1 - (lg_sl ([.ref h0])).length) Slot.unset).toArray = ls at hl ⊢
  have hl : lv_has ls 1 [(0, .ref h0)] := hl
  refine xa_new (ci := 1) (fs := [.int 0, .int 0, .int 0, .null]) (C := RJx35411) (T := TJx35411) (N := 4) hx hb hts in_Jx35411 tyJx35411 tyJx35411_ok hown (hts _ q_244) (hts _ q_245) (hts _ q_246) hK hP hD hS hA rfl nf_Jx35411 (Nat.le_of_ble_eq_true rfl) (Nat.le_of_ble_eq_true rfl) dJx4a65c_iterator_32c93_0 (fun a1 H2 hg8 hP hD hS => ?_)
  have hG : s.heap.size + 1 ≤ H2.size := by rw [hg8]; exact Nat.succ_le_succ hG
  have hP : va_P (dC, dI) xCl [(h0, .inr (0, [.int 20, .ref o0, .int 5])), (a1, .inr (1, [.int 0, .int 0, .int 0, .null]))] H2 := hP
  have hD : va_D A [(h0, .inr (0, [.int 20, .ref o0, .int 5])), (a1, .inr (1, [.int 0, .int 0, .int 0, .null]))] := hD
  refine W.widen (k := 1) (n := 4) (by decide) (by decide) ?_
  refine lv_dup hx hb dJx4a65c_iterator_32c93_3 rfl ?_
  refine lv_aload_n hx hb dJx4a65c_iterator_32c93_4 rfl (lv_at hl 0 rfl) ?_
  have hF3 := va_free (wc := [(a1, .inr (1, [.int 0, .int 0, .int 0, .null])), (h0, .inr (0, [.int 20, .ref o0, .int 5]))]) hD hS hA [1, 0] rfl
  refine va_callv (va_runI (As := [.ref h0]) (rest := [.ref a1]) ⟨hx, hb, hml, hown, hts⟩ (k458_init l hl9 dC dI z a1 h0 o0 H2.size) (cwI 1 hts (gIL q_252) rfl rfl rfl (hts _ q_246) (hts _ q_253) (hts _ q_254) rfl (by decide +kernel) ⟨Nat.le_of_ble_eq_true rfl, Nat.le_of_ble_eq_true rfl⟩) ⟨pc_blind, fun U hU hW => ⟨rfl, pc_mk hP hD hK hS hX hT [1, 0] [] rfl rfl rfl rfl hF3 hU hW⟩⟩ rfl rfl hl.1 rfl (lv_room (Nat.le_of_ble_eq_true rfl)) dJx4a65c_iterator_32c93_5 ⟨(Nat.le_of_ble_eq_true rfl), (Nat.le_of_ble_eq_true rfl)⟩) hS (fun q9 _ h9 => hF3 q9 h9) hF3 (fun u5 t5 H5 L5 ht5 hvm5 hw5 hB5 hz5 hk5 hS => ?_)
  obtain ⟨hP, hD, hK⟩ := pq_join (wr := []) (tr := []) (wz := [(a1, .inr (1, [.int 0, .int (-1), .int 20, .ref h0])), (h0, .inr (0, [.int 20, .ref o0, .int 5]))]) (tz := []) hP hD hK [1, 0] [] [] rfl rfl (by decide) (by decide) rfl hk5 hF3 hB5.1 ht5 hvm5 rfl rfl
  have hG : s.heap.size + 1 ≤ H5.size := Nat.le_trans hG hz5
  exact W.aret (v := .ref a1) hx hb hr (by first | exact Or.inl ⟨_, rfl⟩ | exact Or.inr ⟨_, rfl⟩) (Or.inr ⟨_, rfl⟩) (fun t9 ht9 hW9 => ⟨⟨(), a1, rfl, trivial, ⟨a1, rfl, ⟨pq_mk (wc := [(h0, .inr (0, [.int 20, .ref o0, .int 5])), (a1, .inr (1, [.int 0, .int (-1), .int 20, .ref h0]))]) (tc := []) hP hD hK [1, 0] [] rfl rfl rfl rfl ht9 hW9, by rw [ht9]; exact Nat.le_trans (Nat.add_le_add_left (Nat.le_of_ble_eq_true rfl) _) hG⟩⟩⟩, hS.F ht9⟩) hS.2.2 dJx4a65c_iterator_32c93_8

set_option maxHeartbeats 4000000 in
set_option maxRecDepth 100000 in
theorem k460_hasNext (l : Launch) (hl9 : l.stackTraces = false) (dC : Nat → ClassId) (dI : Nat → Nat → Nat) (z : XZ) (h0 h1 : Nat) (o0 : Nat) (sz : Nat) : Met l yJx35411_hasNext_aae02 (.code yJx35411_hasNext_aae02 cJx35411_hasNext_aae02 1 (some .boolean) :: wsL_law) ({ frames := 0, cells := 0, slots := 0, locals := 0 }) (va_Pc [.ref h0] (PC (dC, dI) [(h0, .inr (1, [.int 0, .int (-1), .int 20, .ref h1])), (h1, .inr (0, [.int 20, .ref o0, .int 5]))] [] sz z)) (va_Qi (fun (r : Int32) (_ : Unit) => r = 1) (fun (_ : Unit) (t : State) => PG (dC, dI) [(h0, .inr (1, [.int 0, .int (-1), .int 20, .ref h1])), (h1, .inr (0, [.int 20, .ref o0, .int 5]))] [] (va_A [(h0, .inr (1, [.int 0, .int (-1), .int 20, .ref h1])), (h1, .inr (0, [.int 20, .ref o0, .int 5]))] sz) sz 0 t) (va_A [(h0, .inr (1, [.int 0, .int (-1), .int 20, .ref h1])), (h1, .inr (0, [.int 20, .ref o0, .int 5]))] sz)) 0 0 (va_A [(h0, .inr (1, [.int 0, .int (-1), .int 20, .ref h1])), (h1, .inr (0, [.int 20, .ref o0, .int 5]))] sz) := by
  refine Met.ofW (cc := cJx35411_hasNext_aae02) (maxL := 1) (ret := (some .boolean)) (by decide) rfl ?_
  intro p e s m args below meth c s₁ B hml hv
  obtain ⟨rfl, hsz, hP, hK, hD0, hX, hT⟩ := hv
  have hx := B.exec
  have hb := B.bytes
  have hr := B.returns
  have hts0 := atoms_spec (ws := .code yJx35411_hasNext_aae02 cJx35411_hasNext_aae02 1 (some .boolean) :: wsL_law) B.pre
  have hts := xTail hts0
  have hown : s.vm.findClass RJx35411 = some m.cls := findClass_of_methodNamed B.named
  have hlocks := B.notSynchronized
  subst hsz
  have hD := hD0.self (sz := s.heap.size)
  generalize hAe : va_A [(h0, .inr (1, [.int 0, .int (-1), .int 20, .ref h1])), (h1, .inr (0, [.int 20, .ref o0, .int 5]))] s.heap.size = A at hD hX ⊢
  have hA : ∀ q : Nat, s.heap.size ≤ q → A q := fun q h => by rw [← hAe]; exact Or.inr h
  have hS : va_S A s.heap s.heap [] := va_S.rf
  have hG : s.heap.size + 0 ≤ s.heap.size := Nat.le_refl _
  have hl := lv_entry ([.ref h0]) (n := 1) (Nat.le_of_ble_eq_true rfl)
  rw [lg_entry_eq]
  generalize (lg_sl ([.ref h0]) ++ List.replicate (1 - (lg_sl ([.ref h0])).length) Slot.unset).toArray = ls at hl ⊢
  have hl : lv_has ls 1 [(0, .ref h0)] := hl
  refine lv_aload_n hx hb dJx35411_hasNext_aae02_0 rfl (lv_at hl 0 rfl) ?_
  refine va_get (D := (dC, dI)) (ci := 1) (v := .int 0) (C := RJx35411) (T := TJx35411) (N := 4) hx hb hts in_Jx35411 hown hK hP 0 rfl rfl 0 (by decide) (hts _ q_259) (fun _ h9 => h9) rfl dJx35411_hasNext_aae02_1 ?_
  refine lv_aload_n hx hb dJx35411_hasNext_aae02_4 rfl (lv_at hl 0 rfl) ?_
  refine va_get (D := (dC, dI)) (ci := 1) (v := .ref h1) (C := RJx35411) (T := TJx35411) (N := 4) hx hb hts in_Jx35411 hown hK hP 0 rfl rfl 3 (by decide) (hts _ q_247) (fun _ h9 => h9) rfl dJx35411_hasNext_aae02_5 ?_
  refine va_getN (D := (dC, dI)) (ci := 0) (v := .int 5) (C := RJx4a65c) (T := TJx4a65c) (N := 3) hx hb hts in_Jx4a65c hown hK hP 1 rfl rfl 2 (by decide) (va_Nw.use rfl hT.2.2.2.2.1) (fun _ h9 => h9) rfl dJx35411_hasNext_aae02_8 ?_
  refine lv_icmp_eq (tgt := 18) hx hb dJx35411_hasNext_aae02_11 (by decide) (fun cz => absurd cz (by decide)) (fun _ => ?_)
  refine lv_iconst (v := 1) hx hb dJx35411_hasNext_aae02_14 (by decide) ?_
  refine lv_goto (tgt := 19) hx hb dJx35411_hasNext_aae02_15 (by decide) ?_
  exact W.zret (v := 1) (ty := .boolean) hx hb hr rfl (fun t9 ht9 hW9 => ⟨⟨1, (), rfl, rfl, ⟨pq_mk (wc := [(h0, .inr (1, [.int 0, .int (-1), .int 20, .ref h1])), (h1, .inr (0, [.int 20, .ref o0, .int 5]))]) (tc := []) hP hD hK [0, 1] [] rfl rfl rfl rfl ht9 hW9, by rw [ht9]; exact Nat.le_trans (Nat.add_le_add_left (Nat.le_of_ble_eq_true rfl) _) hG⟩⟩, hS.F ht9⟩) hS.2.2 dJx35411_hasNext_aae02_19

set_option maxHeartbeats 4000000 in
set_option maxRecDepth 100000 in
theorem k461_checkForComodification (l : Launch) (hl9 : l.stackTraces = false) (dC : Nat → ClassId) (dI : Nat → Nat → Nat) (z : XZ) (h0 h1 : Nat) (o0 : Nat) (sz : Nat) : Met l yJx35411_checkForComodification_da8c8 (.code yJx35411_checkForComodification_da8c8 cJx35411_checkForComodification_da8c8 1 none :: wsL_law) ({ frames := 0, cells := 0, slots := 0, locals := 0 }) (va_Pc [.ref h0] (PC (dC, dI) [(h0, .inr (1, [.int 0, .int (-1), .int 20, .ref h1])), (h1, .inr (0, [.int 20, .ref o0, .int 5]))] [] sz z)) (va_Qv (fun (_ : Unit) => True) (fun (_ : Unit) (t : State) => PG (dC, dI) [(h0, .inr (1, [.int 0, .int (-1), .int 20, .ref h1])), (h1, .inr (0, [.int 20, .ref o0, .int 5]))] [] (va_A [(h0, .inr (1, [.int 0, .int (-1), .int 20, .ref h1])), (h1, .inr (0, [.int 20, .ref o0, .int 5]))] sz) sz 0 t) (va_A [(h0, .inr (1, [.int 0, .int (-1), .int 20, .ref h1])), (h1, .inr (0, [.int 20, .ref o0, .int 5]))] sz)) 0 0 (va_A [(h0, .inr (1, [.int 0, .int (-1), .int 20, .ref h1])), (h1, .inr (0, [.int 20, .ref o0, .int 5]))] sz) := by
  refine Met.ofW (cc := cJx35411_checkForComodification_da8c8) (maxL := 1) (ret := none) (by decide) rfl ?_
  intro p e s m args below meth c s₁ B hml hv
  obtain ⟨rfl, hsz, hP, hK, hD0, hX, hT⟩ := hv
  have hx := B.exec
  have hb := B.bytes
  have hr := B.returns
  have hts0 := atoms_spec (ws := .code yJx35411_checkForComodification_da8c8 cJx35411_checkForComodification_da8c8 1 none :: wsL_law) B.pre
  have hts := xTail hts0
  have hown : s.vm.findClass RJx35411 = some m.cls := findClass_of_methodNamed B.named
  have hlocks := B.notSynchronized
  subst hsz
  have hD := hD0.self (sz := s.heap.size)
  generalize hAe : va_A [(h0, .inr (1, [.int 0, .int (-1), .int 20, .ref h1])), (h1, .inr (0, [.int 20, .ref o0, .int 5]))] s.heap.size = A at hD hX ⊢
  have hA : ∀ q : Nat, s.heap.size ≤ q → A q := fun q h => by rw [← hAe]; exact Or.inr h
  have hS : va_S A s.heap s.heap [] := va_S.rf
  have hG : s.heap.size + 0 ≤ s.heap.size := Nat.le_refl _
  have hl := lv_entry ([.ref h0]) (n := 1) (Nat.le_of_ble_eq_true rfl)
  rw [lg_entry_eq]
  generalize (lg_sl ([.ref h0]) ++ List.replicate (1 - (lg_sl ([.ref h0])).length) Slot.unset).toArray = ls at hl ⊢
  have hl : lv_has ls 1 [(0, .ref h0)] := hl
  refine lv_aload_n hx hb dJx35411_checkForComodification_da8c8_0 rfl (lv_at hl 0 rfl) ?_
  refine va_get (D := (dC, dI)) (ci := 1) (v := .ref h1) (C := RJx35411) (T := TJx35411) (N := 4) hx hb hts in_Jx35411 hown hK hP 0 rfl rfl 3 (by decide) (hts _ q_247) (fun _ h9 => h9) rfl dJx35411_checkForComodification_da8c8_1 ?_
  refine va_get (D := (dC, dI)) (ci := 0) (v := .int 20) (C := RJx4a65c) (T := TJx4a65c) (N := 3) hx hb hts in_Jx4a65c hown hK hP 1 rfl rfl 0 (by decide) (hts _ q_250) (u_same (hts _ q_107)) rfl dJx35411_checkForComodification_da8c8_4 ?_
  refine lv_aload_n hx hb dJx35411_checkForComodification_da8c8_7 rfl (lv_at hl 0 rfl) ?_
  refine va_get (D := (dC, dI)) (ci := 1) (v := .int 20) (C := RJx35411) (T := TJx35411) (N := 4) hx hb hts in_Jx35411 hown hK hP 0 rfl rfl 2 (by decide) (hts _ q_251) (fun _ h9 => h9) rfl dJx35411_checkForComodification_da8c8_8 ?_
  refine lv_icmp_eq (tgt := 22) hx hb dJx35411_checkForComodification_da8c8_11 (by decide) (fun _ => ?_) (fun cz => absurd (by decide) cz)
  exact W.vret hx hb hr (fun t9 ht9 hW9 => ⟨⟨(), rfl, trivial, ⟨pq_mk (wc := [(h0, .inr (1, [.int 0, .int (-1), .int 20, .ref h1])), (h1, .inr (0, [.int 20, .ref o0, .int 5]))]) (tc := []) hP hD hK [0, 1] [] rfl rfl rfl rfl ht9 hW9, by rw [ht9]; exact Nat.le_trans (Nat.add_le_add_left (Nat.le_of_ble_eq_true rfl) _) hG⟩⟩, hS.F ht9⟩) hS.2.2 dJx35411_checkForComodification_da8c8_22

set_option maxHeartbeats 4000000 in
set_option maxRecDepth 100000 in
theorem k462_next (l : Launch) (hl9 : l.stackTraces = false) (dC : Nat → ClassId) (dI : Nat → Nat → Nat) (z : XZ) (h0 h1 h2 : Nat) (sz : Nat) (kc0 : ClassId) : Met l yJx35411_next_0502b (.code yJx35411_next_0502b cJx35411_next_0502b 3 (some (.object "java/lang/Object")) :: wsL_law) ({ frames := 1, cells := 0, slots := 0, locals := 20 }) (va_Pc [.ref h0] (PC (dC, dI) [(h0, .inr (1, [.int 0, .int (-1), .int 20, .ref h1])), (h1, .inr (0, [.int 20, .ref h2, .int 5])), (h2, .inl (kc0, 10, .inr (.inr (.inr (.inr (va_up (va_up (va_up (va_up (va_up (fun _ => none) 0 (some (z.2.2.1 128))) 1 (some (z.2.2.1 129))) 2 (some (z.2.2.1 130))) 3 (some (z.2.2.1 131))) 4 (some (z.2.2.1 132))))))))] [(kc0, .object "java/lang/Object")] sz z)) (va_Qr (fun (_ : Unit) => True) (fun (_ : Unit) (ra : Nat) (t : State) => ra = (z.2.2.1 128) ∧ PG (dC, dI) [(h0, .inr (1, [.int 1, .int 0, .int 20, .ref h1])), (h1, .inr (0, [.int 20, .ref h2, .int 5])), (h2, .inl (kc0, 10, .inr (.inr (.inr (.inr (va_up (va_up (va_up (va_up (va_up (fun _ => none) 0 (some (z.2.2.1 128))) 1 (some (z.2.2.1 129))) 2 (some (z.2.2.1 130))) 3 (some (z.2.2.1 131))) 4 (some (z.2.2.1 132))))))))] [(kc0, .object "java/lang/Object")] (va_A [(h0, .inr (1, [.int 0, .int (-1), .int 20, .ref h1])), (h1, .inr (0, [.int 20, .ref h2, .int 5])), (h2, .inl (kc0, 10, .inr (.inr (.inr (.inr (va_up (va_up (va_up (va_up (va_up (fun _ => none) 0 (some (z.2.2.1 128))) 1 (some (z.2.2.1 129))) 2 (some (z.2.2.1 130))) 3 (some (z.2.2.1 131))) 4 (some (z.2.2.1 132))))))))] sz) sz 0 t) (va_A [(h0, .inr (1, [.int 0, .int (-1), .int 20, .ref h1])), (h1, .inr (0, [.int 20, .ref h2, .int 5])), (h2, .inl (kc0, 10, .inr (.inr (.inr (.inr (va_up (va_up (va_up (va_up (va_up (fun _ => none) 0 (some (z.2.2.1 128))) 1 (some (z.2.2.1 129))) 2 (some (z.2.2.1 130))) 3 (some (z.2.2.1 131))) 4 (some (z.2.2.1 132))))))))] sz)) 0 0 (va_A [(h0, .inr (1, [.int 0, .int (-1), .int 20, .ref h1])), (h1, .inr (0, [.int 20, .ref h2, .int 5])), (h2, .inl (kc0, 10, .inr (.inr (.inr (.inr (va_up (va_up (va_up (va_up (va_up (fun _ => none) 0 (some (z.2.2.1 128))) 1 (some (z.2.2.1 129))) 2 (some (z.2.2.1 130))) 3 (some (z.2.2.1 131))) 4 (some (z.2.2.1 132))))))))] sz) := by
  refine Met.ofW (cc := cJx35411_next_0502b) (maxL := 3) (ret := (some (.object "java/lang/Object"))) (by decide) rfl ?_
  intro p e s m args below meth c s₁ B hml hv
  obtain ⟨rfl, hsz, hP, hK, hD0, hX, hT⟩ := hv
  have hx := B.exec
  have hb := B.bytes
  have hr := B.returns
  have hts0 := atoms_spec (ws := .code yJx35411_next_0502b cJx35411_next_0502b 3 (some (.object "java/lang/Object")) :: wsL_law) B.pre
  have hts := xTail hts0
  have hown : s.vm.findClass RJx35411 = some m.cls := findClass_of_methodNamed B.named
  have hlocks := B.notSynchronized
  subst hsz
  have hD := hD0.self (sz := s.heap.size)
  generalize hAe : va_A [(h0, .inr (1, [.int 0, .int (-1), .int 20, .ref h1])), (h1, .inr (0, [.int 20, .ref h2, .int 5])), (h2, .inl (kc0, 10, .inr (.inr (.inr (.inr (va_up (va_up (va_up (va_up (va_up (fun _ => none) 0 (some (z.2.2.1 128))) 1 (some (z.2.2.1 129))) 2 (some (z.2.2.1 130))) 3 (some (z.2.2.1 131))) 4 (some (z.2.2.1 132))))))))] s.heap.size = A at hD hX ⊢
  have hA : ∀ q : Nat, s.heap.size ≤ q → A q := fun q h => by rw [← hAe]; exact Or.inr h
  have hS : va_S A s.heap s.heap [] := va_S.rf
  have hG : s.heap.size + 0 ≤ s.heap.size := Nat.le_refl _
  have hl := lv_entry ([.ref h0]) (n := 3) (Nat.le_of_ble_eq_true rfl)
  rw [lg_entry_eq]
  generalize (lg_sl ([.ref h0]) ++ List.replicate (3 - (lg_sl ([.ref h0])).length) Slot.unset).toArray = ls at hl ⊢
  have hl : lv_has ls 3 [(0, .ref h0)] := hl
  refine lv_aload_n hx hb dJx35411_next_0502b_0 rfl (lv_at hl 0 rfl) ?_
  have hF1 := va_free (wc := [(h0, .inr (1, [.int 0, .int (-1), .int 20, .ref h1])), (h1, .inr (0, [.int 20, .ref h2, .int 5]))]) hD hS hA [0, 1] rfl
  refine va_callv (va_runV (As := []) (rest := []) ⟨hx, hb, hml, hown, hts⟩ (k461_checkForComodification l hl9 dC dI z h0 h1 h2 s.heap.size) (cwV 0 hts (gV q_303 q_304 q_305 q_246 q_302) rfl rfl rfl (by decide +kernel) ⟨Nat.le_of_ble_eq_true rfl, Nat.le_of_ble_eq_true rfl⟩) ⟨pc_blind, va_recv hK hP (ci := 1) (q0 := 0) rfl rfl, fun U hU hW => ⟨rfl, pc_mk hP hD hK hS hX hT [0, 1] [] rfl rfl rfl rfl hF1 hU hW⟩⟩ rfl rfl hl.1 rfl (lv_room (Nat.le_of_ble_eq_true rfl)) dJx35411_next_0502b_1 ⟨(Nat.le_of_ble_eq_true rfl), (Nat.le_of_ble_eq_true rfl)⟩) hS (fun q9 _ h9 => hF1 q9 h9) hF1 (fun u3 t3 H3 L3 ht3 hvm3 hw3 hB3 hz3 hk3 hS => ?_)
  obtain ⟨hP, hD, hK⟩ := pq_join (wr := [(h2, .inl (kc0, 10, .inr (.inr (.inr (.inr (va_up (va_up (va_up (va_up (va_up (fun _ => none) 0 (some (z.2.2.1 128))) 1 (some (z.2.2.1 129))) 2 (some (z.2.2.1 130))) 3 (some (z.2.2.1 131))) 4 (some (z.2.2.1 132))))))))]) (tr := [(kc0, .object "java/lang/Object")]) (wz := [(h2, .inl (kc0, 10, .inr (.inr (.inr (.inr (va_up (va_up (va_up (va_up (va_up (fun _ => none) 0 (some (z.2.2.1 128))) 1 (some (z.2.2.1 129))) 2 (some (z.2.2.1 130))) 3 (some (z.2.2.1 131))) 4 (some (z.2.2.1 132)))))))), (h0, .inr (1, [.int 0, .int (-1), .int 20, .ref h1])), (h1, .inr (0, [.int 20, .ref h2, .int 5]))]) (tz := [(kc0, .object "java/lang/Object")]) hP hD hK [0, 1] [2] [0] rfl rfl (by decide) (by decide) rfl hk3 hF1 hB3.1 ht3 hvm3 rfl rfl
  have hG : s.heap.size + 0 ≤ H3.size := Nat.le_trans hG hz3
  refine lv_aload_n hx hb dJx35411_next_0502b_4 rfl (lv_at hl 0 rfl) ?_
  refine va_get (D := (dC, dI)) (ci := 1) (v := .int 0) (C := RJx35411) (T := TJx35411) (N := 4) hx hb hts in_Jx35411 hown hK hP 1 rfl rfl 0 (by decide) (hts _ q_259) (fun _ h9 => h9) rfl dJx35411_next_0502b_5 ?_
  refine lv_istore_n (lv' := [(1, .int 0), (0, .ref h0)]) hx hb dJx35411_next_0502b_8 rfl hl (by decide) rfl (fun ls hl => ?_)
  refine lv_iload_n hx hb dJx35411_next_0502b_9 rfl (lv_at hl 0 rfl) ?_
  refine lv_aload_n hx hb dJx35411_next_0502b_10 rfl (lv_at hl 1 rfl) ?_
  refine va_get (D := (dC, dI)) (ci := 1) (v := .ref h1) (C := RJx35411) (T := TJx35411) (N := 4) hx hb hts in_Jx35411 hown hK hP 1 rfl rfl 3 (by decide) (hts _ q_247) (fun _ h9 => h9) rfl dJx35411_next_0502b_11 ?_
  refine va_getN (D := (dC, dI)) (ci := 0) (v := .int 5) (C := RJx4a65c) (T := TJx4a65c) (N := 3) hx hb hts in_Jx4a65c hown hK hP 2 rfl rfl 2 (by decide) (va_Nw.use rfl hT.2.2.2.2.1) (fun _ h9 => h9) rfl dJx35411_next_0502b_14 ?_
  refine lv_icmp_lt (tgt := 28) hx hb dJx35411_next_0502b_17 (by decide) (fun _ => ?_) (fun cz => absurd (by decide) cz)
  refine lv_aload_n hx hb dJx35411_next_0502b_28 rfl (lv_at hl 1 rfl) ?_
  refine va_get (D := (dC, dI)) (ci := 1) (v := .ref h1) (C := RJx35411) (T := TJx35411) (N := 4) hx hb hts in_Jx35411 hown hK hP 1 rfl rfl 3 (by decide) (hts _ q_247) (fun _ h9 => h9) rfl dJx35411_next_0502b_29 ?_
  refine va_get (D := (dC, dI)) (ci := 0) (v := .ref h2) (C := RJx4a65c) (T := TJx4a65c) (N := 3) hx hb hts in_Jx4a65c hown hK hP 2 rfl rfl 1 (by decide) (hts _ q_306) (fun _ h9 => h9) rfl dJx35411_next_0502b_32 ?_
  refine lv_astore_n (lv' := [(2, .ref h2), (1, .int 0), (0, .ref h0)]) hx hb dJx35411_next_0502b_35 rfl hl (by decide) rfl (fun ls hl => ?_)
  refine lv_iload_n hx hb dJx35411_next_0502b_36 rfl (lv_at hl 1 rfl) ?_
  refine lv_aload_n hx hb dJx35411_next_0502b_37 rfl (lv_at hl 0 rfl) ?_
  refine va_alen hx hb hK hP 0 0 rfl rfl (v := 10) rfl dJx35411_next_0502b_38 ?_
  refine lv_icmp_lt (tgt := 50) hx hb dJx35411_next_0502b_39 (by decide) (fun _ => ?_) (fun cz => absurd (by decide) cz)
  refine lv_aload_n hx hb dJx35411_next_0502b_50 rfl (lv_at hl 2 rfl) ?_
  refine lv_iload_n hx hb dJx35411_next_0502b_51 rfl (lv_at hl 1 rfl) ?_
  refine lv_iconst (v := 1) hx hb dJx35411_next_0502b_52 (by decide) ?_
  refine lv_iadd hx hb dJx35411_next_0502b_53 ?_
  refine lv_topi (fun y5 ey5 => ?_)
  obtain rfl : y5 = 1 := ey5.trans (by decide)
  refine va_put (D := (dC, dI)) (ci := 1) (v := .int 1) (ty := .int) (C := RJx35411) (T := TJx35411) (N := 4) hx hb hts in_Jx35411 tyJx35411 tyJx35411_ok nmJx35411 hown hK hP hD (va_Sre hS) 1 rfl rfl 0 (by decide) (hts _ q_259) (fun _ h9 => h9) rfl (by decide +kernel) rfl rfl (Nat.le_of_ble_eq_true rfl) dJx35411_next_0502b_54 (fun H6 _ hP hD hS' => ?_)
  have hG : s.heap.size + 0 ≤ H6.size := Nat.le_trans hG hS'.1
  have hS := va_Str hS hS'
  have hP : va_P (dC, dI) xCl [(h2, .inl (kc0, 10, .inr (.inr (.inr (.inr (va_up (va_up (va_up (va_up (va_up (fun _ => none) 0 (some (z.2.2.1 128))) 1 (some (z.2.2.1 129))) 2 (some (z.2.2.1 130))) 3 (some (z.2.2.1 131))) 4 (some (z.2.2.1 132)))))))), (h0, .inr (1, [.int 1, .int (-1), .int 20, .ref h1])), (h1, .inr (0, [.int 20, .ref h2, .int 5]))] H6 := hP
  have hD : va_D A [(h2, .inl (kc0, 10, .inr (.inr (.inr (.inr (va_up (va_up (va_up (va_up (va_up (fun _ => none) 0 (some (z.2.2.1 128))) 1 (some (z.2.2.1 129))) 2 (some (z.2.2.1 130))) 3 (some (z.2.2.1 131))) 4 (some (z.2.2.1 132)))))))), (h0, .inr (1, [.int 1, .int (-1), .int 20, .ref h1])), (h1, .inr (0, [.int 20, .ref h2, .int 5]))] := hD
  refine lv_aload_n hx hb dJx35411_next_0502b_57 rfl (lv_at hl 0 rfl) ?_
  refine lv_aload_n hx hb dJx35411_next_0502b_58 rfl (lv_at hl 2 rfl) ?_
  refine lv_iload_n hx hb dJx35411_next_0502b_59 rfl (lv_at hl 1 rfl) ?_
  refine lv_dup_x1 hx hb dJx35411_next_0502b_60 rfl rfl ?_
  refine va_put (D := (dC, dI)) (ci := 1) (v := .int 0) (ty := .int) (C := RJx35411) (T := TJx35411) (N := 4) hx hb hts in_Jx35411 tyJx35411 tyJx35411_ok nmJx35411 hown hK hP hD (va_Sre hS) 1 rfl rfl 1 (by decide) (hts _ q_249) (fun _ h9 => h9) rfl (by decide +kernel) rfl rfl (Nat.le_of_ble_eq_true rfl) dJx35411_next_0502b_61 (fun H7 _ hP hD hS' => ?_)
  have hG : s.heap.size + 0 ≤ H7.size := Nat.le_trans hG hS'.1
  have hS := va_Str hS hS'
  have hP : va_P (dC, dI) xCl [(h2, .inl (kc0, 10, .inr (.inr (.inr (.inr (va_up (va_up (va_up (va_up (va_up (fun _ => none) 0 (some (z.2.2.1 128))) 1 (some (z.2.2.1 129))) 2 (some (z.2.2.1 130))) 3 (some (z.2.2.1 131))) 4 (some (z.2.2.1 132)))))))), (h0, .inr (1, [.int 1, .int 0, .int 20, .ref h1])), (h1, .inr (0, [.int 20, .ref h2, .int 5]))] H7 := hP
  have hD : va_D A [(h2, .inl (kc0, 10, .inr (.inr (.inr (.inr (va_up (va_up (va_up (va_up (va_up (fun _ => none) 0 (some (z.2.2.1 128))) 1 (some (z.2.2.1 129))) 2 (some (z.2.2.1 130))) 3 (some (z.2.2.1 131))) 4 (some (z.2.2.1 132)))))))), (h0, .inr (1, [.int 1, .int 0, .int 20, .ref h1])), (h1, .inr (0, [.int 20, .ref h2, .int 5]))] := hD
  refine va_aldq hx hb hK hP 0 0 rfl rfl (i := 0) (by unfold vp_in; decide) dJx35411_next_0502b_64 ?_
  refine W.eq (g2 := F0 m 65 ls [.ref (z.2.2.1 128)]) rfl ?_
  exact W.aret (v := .ref (z.2.2.1 128)) hx hb hr (by first | exact Or.inl ⟨_, rfl⟩ | exact Or.inr ⟨_, rfl⟩) (Or.inr ⟨_, rfl⟩) (fun t9 ht9 hW9 => ⟨⟨(), (z.2.2.1 128), rfl, trivial, ⟨rfl, ⟨pq_mk (wc := [(h0, .inr (1, [.int 1, .int 0, .int 20, .ref h1])), (h1, .inr (0, [.int 20, .ref h2, .int 5])), (h2, .inl (kc0, 10, .inr (.inr (.inr (.inr (va_up (va_up (va_up (va_up (va_up (fun _ => none) 0 (some (z.2.2.1 128))) 1 (some (z.2.2.1 129))) 2 (some (z.2.2.1 130))) 3 (some (z.2.2.1 131))) 4 (some (z.2.2.1 132))))))))]) (tc := [(kc0, .object "java/lang/Object")]) hP hD hK [1, 2, 0] [0] rfl rfl rfl rfl ht9 hW9, by rw [ht9]; exact Nat.le_trans (Nat.add_le_add_left (Nat.le_of_ble_eq_true rfl) _) hG⟩⟩⟩, hS.F ht9⟩) hS.2.2 dJx35411_next_0502b_65

set_option maxHeartbeats 4000000 in
set_option maxRecDepth 100000 in
theorem k463_hasNext (l : Launch) (hl9 : l.stackTraces = false) (dC : Nat → ClassId) (dI : Nat → Nat → Nat) (z : XZ) (h0 h1 : Nat) (o0 : Nat) (sz : Nat) : Met l yJx35411_hasNext_aae02 (.code yJx35411_hasNext_aae02 cJx35411_hasNext_aae02 1 (some .boolean) :: wsL_law) ({ frames := 0, cells := 0, slots := 0, locals := 0 }) (va_Pc [.ref h0] (PC (dC, dI) [(h0, .inr (1, [.int 1, .int 0, .int 20, .ref h1])), (h1, .inr (0, [.int 20, .ref o0, .int 5]))] [] sz z)) (va_Qi (fun (r : Int32) (_ : Unit) => r = 1) (fun (_ : Unit) (t : State) => PG (dC, dI) [(h0, .inr (1, [.int 1, .int 0, .int 20, .ref h1])), (h1, .inr (0, [.int 20, .ref o0, .int 5]))] [] (va_A [(h0, .inr (1, [.int 1, .int 0, .int 20, .ref h1])), (h1, .inr (0, [.int 20, .ref o0, .int 5]))] sz) sz 0 t) (va_A [(h0, .inr (1, [.int 1, .int 0, .int 20, .ref h1])), (h1, .inr (0, [.int 20, .ref o0, .int 5]))] sz)) 0 0 (va_A [(h0, .inr (1, [.int 1, .int 0, .int 20, .ref h1])), (h1, .inr (0, [.int 20, .ref o0, .int 5]))] sz) := by
  refine Met.ofW (cc := cJx35411_hasNext_aae02) (maxL := 1) (ret := (some .boolean)) (by decide) rfl ?_
  intro p e s m args below meth c s₁ B hml hv
  obtain ⟨rfl, hsz, hP, hK, hD0, hX, hT⟩ := hv
  have hx := B.exec
  have hb := B.bytes
  have hr := B.returns
  have hts0 := atoms_spec (ws := .code yJx35411_hasNext_aae02 cJx35411_hasNext_aae02 1 (some .boolean) :: wsL_law) B.pre
  have hts := xTail hts0
  have hown : s.vm.findClass RJx35411 = some m.cls := findClass_of_methodNamed B.named
  have hlocks := B.notSynchronized
  subst hsz
  have hD := hD0.self (sz := s.heap.size)
  generalize hAe : va_A [(h0, .inr (1, [.int 1, .int 0, .int 20, .ref h1])), (h1, .inr (0, [.int 20, .ref o0, .int 5]))] s.heap.size = A at hD hX ⊢
  have hA : ∀ q : Nat, s.heap.size ≤ q → A q := fun q h => by rw [← hAe]; exact Or.inr h
  have hS : va_S A s.heap s.heap [] := va_S.rf
  have hG : s.heap.size + 0 ≤ s.heap.size := Nat.le_refl _
  have hl := lv_entry ([.ref h0]) (n := 1) (Nat.le_of_ble_eq_true rfl)
  rw [lg_entry_eq]
  generalize (lg_sl ([.ref h0]) ++ List.replicate (1 - (lg_sl ([.ref h0])).length) Slot.unset).toArray = ls at hl ⊢
  have hl : lv_has ls 1 [(0, .ref h0)] := hl
  refine lv_aload_n hx hb dJx35411_hasNext_aae02_0 rfl (lv_at hl 0 rfl) ?_
  refine va_get (D := (dC, dI)) (ci := 1) (v := .int 1) (C := RJx35411) (T := TJx35411) (N := 4) hx hb hts in_Jx35411 hown hK hP 0 rfl rfl 0 (by decide) (hts _ q_259) (fun _ h9 => h9) rfl dJx35411_hasNext_aae02_1 ?_
  refine lv_aload_n hx hb dJx35411_hasNext_aae02_4 rfl (lv_at hl 0 rfl) ?_
  refine va_get (D := (dC, dI)) (ci := 1) (v := .ref h1) (C := RJx35411) (T := TJx35411) (N := 4) hx hb hts in_Jx35411 hown hK hP 0 rfl rfl 3 (by decide) (hts _ q_247) (fun _ h9 => h9) rfl dJx35411_hasNext_aae02_5 ?_
  refine va_getN (D := (dC, dI)) (ci := 0) (v := .int 5) (C := RJx4a65c) (T := TJx4a65c) (N := 3) hx hb hts in_Jx4a65c hown hK hP 1 rfl rfl 2 (by decide) (va_Nw.use rfl hT.2.2.2.2.1) (fun _ h9 => h9) rfl dJx35411_hasNext_aae02_8 ?_
  refine lv_icmp_eq (tgt := 18) hx hb dJx35411_hasNext_aae02_11 (by decide) (fun cz => absurd cz (by decide)) (fun _ => ?_)
  refine lv_iconst (v := 1) hx hb dJx35411_hasNext_aae02_14 (by decide) ?_
  refine lv_goto (tgt := 19) hx hb dJx35411_hasNext_aae02_15 (by decide) ?_
  exact W.zret (v := 1) (ty := .boolean) hx hb hr rfl (fun t9 ht9 hW9 => ⟨⟨1, (), rfl, rfl, ⟨pq_mk (wc := [(h0, .inr (1, [.int 1, .int 0, .int 20, .ref h1])), (h1, .inr (0, [.int 20, .ref o0, .int 5]))]) (tc := []) hP hD hK [0, 1] [] rfl rfl rfl rfl ht9 hW9, by rw [ht9]; exact Nat.le_trans (Nat.add_le_add_left (Nat.le_of_ble_eq_true rfl) _) hG⟩⟩, hS.F ht9⟩) hS.2.2 dJx35411_hasNext_aae02_19

set_option maxHeartbeats 4000000 in
set_option maxRecDepth 100000 in
theorem k464_checkForComodification (l : Launch) (hl9 : l.stackTraces = false) (dC : Nat → ClassId) (dI : Nat → Nat → Nat) (z : XZ) (h0 h1 : Nat) (o0 : Nat) (sz : Nat) : Met l yJx35411_checkForComodification_da8c8 (.code yJx35411_checkForComodification_da8c8 cJx35411_checkForComodification_da8c8 1 none :: wsL_law) ({ frames := 0, cells := 0, slots := 0, locals := 0 }) (va_Pc [.ref h0] (PC (dC, dI) [(h0, .inr (1, [.int 1, .int 0, .int 20, .ref h1])), (h1, .inr (0, [.int 20, .ref o0, .int 5]))] [] sz z)) (va_Qv (fun (_ : Unit) => True) (fun (_ : Unit) (t : State) => PG (dC, dI) [(h0, .inr (1, [.int 1, .int 0, .int 20, .ref h1])), (h1, .inr (0, [.int 20, .ref o0, .int 5]))] [] (va_A [(h0, .inr (1, [.int 1, .int 0, .int 20, .ref h1])), (h1, .inr (0, [.int 20, .ref o0, .int 5]))] sz) sz 0 t) (va_A [(h0, .inr (1, [.int 1, .int 0, .int 20, .ref h1])), (h1, .inr (0, [.int 20, .ref o0, .int 5]))] sz)) 0 0 (va_A [(h0, .inr (1, [.int 1, .int 0, .int 20, .ref h1])), (h1, .inr (0, [.int 20, .ref o0, .int 5]))] sz) := by
  refine Met.ofW (cc := cJx35411_checkForComodification_da8c8) (maxL := 1) (ret := none) (by decide) rfl ?_
  intro p e s m args below meth c s₁ B hml hv
  obtain ⟨rfl, hsz, hP, hK, hD0, hX, hT⟩ := hv
  have hx := B.exec
  have hb := B.bytes
  have hr := B.returns
  have hts0 := atoms_spec (ws := .code yJx35411_checkForComodification_da8c8 cJx35411_checkForComodification_da8c8 1 none :: wsL_law) B.pre
  have hts := xTail hts0
  have hown : s.vm.findClass RJx35411 = some m.cls := findClass_of_methodNamed B.named
  have hlocks := B.notSynchronized
  subst hsz
  have hD := hD0.self (sz := s.heap.size)
  generalize hAe : va_A [(h0, .inr (1, [.int 1, .int 0, .int 20, .ref h1])), (h1, .inr (0, [.int 20, .ref o0, .int 5]))] s.heap.size = A at hD hX ⊢
  have hA : ∀ q : Nat, s.heap.size ≤ q → A q := fun q h => by rw [← hAe]; exact Or.inr h
  have hS : va_S A s.heap s.heap [] := va_S.rf
  have hG : s.heap.size + 0 ≤ s.heap.size := Nat.le_refl _
  have hl := lv_entry ([.ref h0]) (n := 1) (Nat.le_of_ble_eq_true rfl)
  rw [lg_entry_eq]
  generalize (lg_sl ([.ref h0]) ++ List.replicate (1 - (lg_sl ([.ref h0])).length) Slot.unset).toArray = ls at hl ⊢
  have hl : lv_has ls 1 [(0, .ref h0)] := hl
  refine lv_aload_n hx hb dJx35411_checkForComodification_da8c8_0 rfl (lv_at hl 0 rfl) ?_
  refine va_get (D := (dC, dI)) (ci := 1) (v := .ref h1) (C := RJx35411) (T := TJx35411) (N := 4) hx hb hts in_Jx35411 hown hK hP 0 rfl rfl 3 (by decide) (hts _ q_247) (fun _ h9 => h9) rfl dJx35411_checkForComodification_da8c8_1 ?_
  refine va_get (D := (dC, dI)) (ci := 0) (v := .int 20) (C := RJx4a65c) (T := TJx4a65c) (N := 3) hx hb hts in_Jx4a65c hown hK hP 1 rfl rfl 0 (by decide) (hts _ q_250) (u_same (hts _ q_107)) rfl dJx35411_checkForComodification_da8c8_4 ?_
  refine lv_aload_n hx hb dJx35411_checkForComodification_da8c8_7 rfl (lv_at hl 0 rfl) ?_
  refine va_get (D := (dC, dI)) (ci := 1) (v := .int 20) (C := RJx35411) (T := TJx35411) (N := 4) hx hb hts in_Jx35411 hown hK hP 0 rfl rfl 2 (by decide) (hts _ q_251) (fun _ h9 => h9) rfl dJx35411_checkForComodification_da8c8_8 ?_
  refine lv_icmp_eq (tgt := 22) hx hb dJx35411_checkForComodification_da8c8_11 (by decide) (fun _ => ?_) (fun cz => absurd (by decide) cz)
  exact W.vret hx hb hr (fun t9 ht9 hW9 => ⟨⟨(), rfl, trivial, ⟨pq_mk (wc := [(h0, .inr (1, [.int 1, .int 0, .int 20, .ref h1])), (h1, .inr (0, [.int 20, .ref o0, .int 5]))]) (tc := []) hP hD hK [0, 1] [] rfl rfl rfl rfl ht9 hW9, by rw [ht9]; exact Nat.le_trans (Nat.add_le_add_left (Nat.le_of_ble_eq_true rfl) _) hG⟩⟩, hS.F ht9⟩) hS.2.2 dJx35411_checkForComodification_da8c8_22

set_option maxHeartbeats 4000000 in
set_option maxRecDepth 100000 in
theorem k465_next (l : Launch) (hl9 : l.stackTraces = false) (dC : Nat → ClassId) (dI : Nat → Nat → Nat) (z : XZ) (h0 h1 h2 : Nat) (sz : Nat) (kc0 : ClassId) : Met l yJx35411_next_0502b (.code yJx35411_next_0502b cJx35411_next_0502b 3 (some (.object "java/lang/Object")) :: wsL_law) ({ frames := 1, cells := 0, slots := 0, locals := 20 }) (va_Pc [.ref h0] (PC (dC, dI) [(h0, .inr (1, [.int 1, .int 0, .int 20, .ref h1])), (h1, .inr (0, [.int 20, .ref h2, .int 5])), (h2, .inl (kc0, 10, .inr (.inr (.inr (.inr (va_up (va_up (va_up (va_up (va_up (fun _ => none) 0 (some (z.2.2.1 128))) 1 (some (z.2.2.1 129))) 2 (some (z.2.2.1 130))) 3 (some (z.2.2.1 131))) 4 (some (z.2.2.1 132))))))))] [(kc0, .object "java/lang/Object")] sz z)) (va_Qr (fun (_ : Unit) => True) (fun (_ : Unit) (ra : Nat) (t : State) => ra = (z.2.2.1 129) ∧ PG (dC, dI) [(h0, .inr (1, [.int 2, .int 1, .int 20, .ref h1])), (h1, .inr (0, [.int 20, .ref h2, .int 5])), (h2, .inl (kc0, 10, .inr (.inr (.inr (.inr (va_up (va_up (va_up (va_up (va_up (fun _ => none) 0 (some (z.2.2.1 128))) 1 (some (z.2.2.1 129))) 2 (some (z.2.2.1 130))) 3 (some (z.2.2.1 131))) 4 (some (z.2.2.1 132))))))))] [(kc0, .object "java/lang/Object")] (va_A [(h0, .inr (1, [.int 1, .int 0, .int 20, .ref h1])), (h1, .inr (0, [.int 20, .ref h2, .int 5])), (h2, .inl (kc0, 10, .inr (.inr (.inr (.inr (va_up (va_up (va_up (va_up (va_up (fun _ => none) 0 (some (z.2.2.1 128))) 1 (some (z.2.2.1 129))) 2 (some (z.2.2.1 130))) 3 (some (z.2.2.1 131))) 4 (some (z.2.2.1 132))))))))] sz) sz 0 t) (va_A [(h0, .inr (1, [.int 1, .int 0, .int 20, .ref h1])), (h1, .inr (0, [.int 20, .ref h2, .int 5])), (h2, .inl (kc0, 10, .inr (.inr (.inr (.inr (va_up (va_up (va_up (va_up (va_up (fun _ => none) 0 (some (z.2.2.1 128))) 1 (some (z.2.2.1 129))) 2 (some (z.2.2.1 130))) 3 (some (z.2.2.1 131))) 4 (some (z.2.2.1 132))))))))] sz)) 0 0 (va_A [(h0, .inr (1, [.int 1, .int 0, .int 20, .ref h1])), (h1, .inr (0, [.int 20, .ref h2, .int 5])), (h2, .inl (kc0, 10, .inr (.inr (.inr (.inr (va_up (va_up (va_up (va_up (va_up (fun _ => none) 0 (some (z.2.2.1 128))) 1 (some (z.2.2.1 129))) 2 (some (z.2.2.1 130))) 3 (some (z.2.2.1 131))) 4 (some (z.2.2.1 132))))))))] sz) := by
  refine Met.ofW (cc := cJx35411_next_0502b) (maxL := 3) (ret := (some (.object "java/lang/Object"))) (by decide) rfl ?_
  intro p e s m args below meth c s₁ B hml hv
  obtain ⟨rfl, hsz, hP, hK, hD0, hX, hT⟩ := hv
  have hx := B.exec
  have hb := B.bytes
  have hr := B.returns
  have hts0 := atoms_spec (ws := .code yJx35411_next_0502b cJx35411_next_0502b 3 (some (.object "java/lang/Object")) :: wsL_law) B.pre
  have hts := xTail hts0
  have hown : s.vm.findClass RJx35411 = some m.cls := findClass_of_methodNamed B.named
  have hlocks := B.notSynchronized
  subst hsz
  have hD := hD0.self (sz := s.heap.size)
  generalize hAe : va_A [(h0, .inr (1, [.int 1, .int 0, .int 20, .ref h1])), (h1, .inr (0, [.int 20, .ref h2, .int 5])), (h2, .inl (kc0, 10, .inr (.inr (.inr (.inr (va_up (va_up (va_up (va_up (va_up (fun _ => none) 0 (some (z.2.2.1 128))) 1 (some (z.2.2.1 129))) 2 (some (z.2.2.1 130))) 3 (some (z.2.2.1 131))) 4 (some (z.2.2.1 132))))))))] s.heap.size = A at hD hX ⊢
  have hA : ∀ q : Nat, s.heap.size ≤ q → A q := fun q h => by rw [← hAe]; exact Or.inr h
  have hS : va_S A s.heap s.heap [] := va_S.rf
  have hG : s.heap.size + 0 ≤ s.heap.size := Nat.le_refl _
  have hl := lv_entry ([.ref h0]) (n := 3) (Nat.le_of_ble_eq_true rfl)
  rw [lg_entry_eq]
  generalize (lg_sl ([.ref h0]) ++ List.replicate (3 - (lg_sl ([.ref h0])).length) Slot.unset).toArray = ls at hl ⊢
  have hl : lv_has ls 3 [(0, .ref h0)] := hl
  refine lv_aload_n hx hb dJx35411_next_0502b_0 rfl (lv_at hl 0 rfl) ?_
  have hF1 := va_free (wc := [(h0, .inr (1, [.int 1, .int 0, .int 20, .ref h1])), (h1, .inr (0, [.int 20, .ref h2, .int 5]))]) hD hS hA [0, 1] rfl
  refine va_callv (va_runV (As := []) (rest := []) ⟨hx, hb, hml, hown, hts⟩ (k464_checkForComodification l hl9 dC dI z h0 h1 h2 s.heap.size) (cwV 0 hts (gV q_303 q_304 q_305 q_246 q_302) rfl rfl rfl (by decide +kernel) ⟨Nat.le_of_ble_eq_true rfl, Nat.le_of_ble_eq_true rfl⟩) ⟨pc_blind, va_recv hK hP (ci := 1) (q0 := 0) rfl rfl, fun U hU hW => ⟨rfl, pc_mk hP hD hK hS hX hT [0, 1] [] rfl rfl rfl rfl hF1 hU hW⟩⟩ rfl rfl hl.1 rfl (lv_room (Nat.le_of_ble_eq_true rfl)) dJx35411_next_0502b_1 ⟨(Nat.le_of_ble_eq_true rfl), (Nat.le_of_ble_eq_true rfl)⟩) hS (fun q9 _ h9 => hF1 q9 h9) hF1 (fun u3 t3 H3 L3 ht3 hvm3 hw3 hB3 hz3 hk3 hS => ?_)
  obtain ⟨hP, hD, hK⟩ := pq_join (wr := [(h2, .inl (kc0, 10, .inr (.inr (.inr (.inr (va_up (va_up (va_up (va_up (va_up (fun _ => none) 0 (some (z.2.2.1 128))) 1 (some (z.2.2.1 129))) 2 (some (z.2.2.1 130))) 3 (some (z.2.2.1 131))) 4 (some (z.2.2.1 132))))))))]) (tr := [(kc0, .object "java/lang/Object")]) (wz := [(h2, .inl (kc0, 10, .inr (.inr (.inr (.inr (va_up (va_up (va_up (va_up (va_up (fun _ => none) 0 (some (z.2.2.1 128))) 1 (some (z.2.2.1 129))) 2 (some (z.2.2.1 130))) 3 (some (z.2.2.1 131))) 4 (some (z.2.2.1 132)))))))), (h0, .inr (1, [.int 1, .int 0, .int 20, .ref h1])), (h1, .inr (0, [.int 20, .ref h2, .int 5]))]) (tz := [(kc0, .object "java/lang/Object")]) hP hD hK [0, 1] [2] [0] rfl rfl (by decide) (by decide) rfl hk3 hF1 hB3.1 ht3 hvm3 rfl rfl
  have hG : s.heap.size + 0 ≤ H3.size := Nat.le_trans hG hz3
  refine lv_aload_n hx hb dJx35411_next_0502b_4 rfl (lv_at hl 0 rfl) ?_
  refine va_get (D := (dC, dI)) (ci := 1) (v := .int 1) (C := RJx35411) (T := TJx35411) (N := 4) hx hb hts in_Jx35411 hown hK hP 1 rfl rfl 0 (by decide) (hts _ q_259) (fun _ h9 => h9) rfl dJx35411_next_0502b_5 ?_
  refine lv_istore_n (lv' := [(1, .int 1), (0, .ref h0)]) hx hb dJx35411_next_0502b_8 rfl hl (by decide) rfl (fun ls hl => ?_)
  refine lv_iload_n hx hb dJx35411_next_0502b_9 rfl (lv_at hl 0 rfl) ?_
  refine lv_aload_n hx hb dJx35411_next_0502b_10 rfl (lv_at hl 1 rfl) ?_
  refine va_get (D := (dC, dI)) (ci := 1) (v := .ref h1) (C := RJx35411) (T := TJx35411) (N := 4) hx hb hts in_Jx35411 hown hK hP 1 rfl rfl 3 (by decide) (hts _ q_247) (fun _ h9 => h9) rfl dJx35411_next_0502b_11 ?_
  refine va_getN (D := (dC, dI)) (ci := 0) (v := .int 5) (C := RJx4a65c) (T := TJx4a65c) (N := 3) hx hb hts in_Jx4a65c hown hK hP 2 rfl rfl 2 (by decide) (va_Nw.use rfl hT.2.2.2.2.1) (fun _ h9 => h9) rfl dJx35411_next_0502b_14 ?_
  refine lv_icmp_lt (tgt := 28) hx hb dJx35411_next_0502b_17 (by decide) (fun _ => ?_) (fun cz => absurd (by decide) cz)
  refine lv_aload_n hx hb dJx35411_next_0502b_28 rfl (lv_at hl 1 rfl) ?_
  refine va_get (D := (dC, dI)) (ci := 1) (v := .ref h1) (C := RJx35411) (T := TJx35411) (N := 4) hx hb hts in_Jx35411 hown hK hP 1 rfl rfl 3 (by decide) (hts _ q_247) (fun _ h9 => h9) rfl dJx35411_next_0502b_29 ?_
  refine va_get (D := (dC, dI)) (ci := 0) (v := .ref h2) (C := RJx4a65c) (T := TJx4a65c) (N := 3) hx hb hts in_Jx4a65c hown hK hP 2 rfl rfl 1 (by decide) (hts _ q_306) (fun _ h9 => h9) rfl dJx35411_next_0502b_32 ?_
  refine lv_astore_n (lv' := [(2, .ref h2), (1, .int 1), (0, .ref h0)]) hx hb dJx35411_next_0502b_35 rfl hl (by decide) rfl (fun ls hl => ?_)
  refine lv_iload_n hx hb dJx35411_next_0502b_36 rfl (lv_at hl 1 rfl) ?_
  refine lv_aload_n hx hb dJx35411_next_0502b_37 rfl (lv_at hl 0 rfl) ?_
  refine va_alen hx hb hK hP 0 0 rfl rfl (v := 10) rfl dJx35411_next_0502b_38 ?_
  refine lv_icmp_lt (tgt := 50) hx hb dJx35411_next_0502b_39 (by decide) (fun _ => ?_) (fun cz => absurd (by decide) cz)
  refine lv_aload_n hx hb dJx35411_next_0502b_50 rfl (lv_at hl 2 rfl) ?_
  refine lv_iload_n hx hb dJx35411_next_0502b_51 rfl (lv_at hl 1 rfl) ?_
  refine lv_iconst (v := 1) hx hb dJx35411_next_0502b_52 (by decide) ?_
  refine lv_iadd hx hb dJx35411_next_0502b_53 ?_
  refine lv_topi (fun y5 ey5 => ?_)
  obtain rfl : y5 = 2 := ey5.trans (by decide)
  refine va_put (D := (dC, dI)) (ci := 1) (v := .int 2) (ty := .int) (C := RJx35411) (T := TJx35411) (N := 4) hx hb hts in_Jx35411 tyJx35411 tyJx35411_ok nmJx35411 hown hK hP hD (va_Sre hS) 1 rfl rfl 0 (by decide) (hts _ q_259) (fun _ h9 => h9) rfl (by decide +kernel) rfl rfl (Nat.le_of_ble_eq_true rfl) dJx35411_next_0502b_54 (fun H6 _ hP hD hS' => ?_)
  have hG : s.heap.size + 0 ≤ H6.size := Nat.le_trans hG hS'.1
  have hS := va_Str hS hS'
  have hP : va_P (dC, dI) xCl [(h2, .inl (kc0, 10, .inr (.inr (.inr (.inr (va_up (va_up (va_up (va_up (va_up (fun _ => none) 0 (some (z.2.2.1 128))) 1 (some (z.2.2.1 129))) 2 (some (z.2.2.1 130))) 3 (some (z.2.2.1 131))) 4 (some (z.2.2.1 132)))))))), (h0, .inr (1, [.int 2, .int 0, .int 20, .ref h1])), (h1, .inr (0, [.int 20, .ref h2, .int 5]))] H6 := hP
  have hD : va_D A [(h2, .inl (kc0, 10, .inr (.inr (.inr (.inr (va_up (va_up (va_up (va_up (va_up (fun _ => none) 0 (some (z.2.2.1 128))) 1 (some (z.2.2.1 129))) 2 (some (z.2.2.1 130))) 3 (some (z.2.2.1 131))) 4 (some (z.2.2.1 132)))))))), (h0, .inr (1, [.int 2, .int 0, .int 20, .ref h1])), (h1, .inr (0, [.int 20, .ref h2, .int 5]))] := hD
  refine lv_aload_n hx hb dJx35411_next_0502b_57 rfl (lv_at hl 0 rfl) ?_
  refine lv_aload_n hx hb dJx35411_next_0502b_58 rfl (lv_at hl 2 rfl) ?_
  refine lv_iload_n hx hb dJx35411_next_0502b_59 rfl (lv_at hl 1 rfl) ?_
  refine lv_dup_x1 hx hb dJx35411_next_0502b_60 rfl rfl ?_
  refine va_put (D := (dC, dI)) (ci := 1) (v := .int 1) (ty := .int) (C := RJx35411) (T := TJx35411) (N := 4) hx hb hts in_Jx35411 tyJx35411 tyJx35411_ok nmJx35411 hown hK hP hD (va_Sre hS) 1 rfl rfl 1 (by decide) (hts _ q_249) (fun _ h9 => h9) rfl (by decide +kernel) rfl rfl (Nat.le_of_ble_eq_true rfl) dJx35411_next_0502b_61 (fun H7 _ hP hD hS' => ?_)
  have hG : s.heap.size + 0 ≤ H7.size := Nat.le_trans hG hS'.1
  have hS := va_Str hS hS'
  have hP : va_P (dC, dI) xCl [(h2, .inl (kc0, 10, .inr (.inr (.inr (.inr (va_up (va_up (va_up (va_up (va_up (fun _ => none) 0 (some (z.2.2.1 128))) 1 (some (z.2.2.1 129))) 2 (some (z.2.2.1 130))) 3 (some (z.2.2.1 131))) 4 (some (z.2.2.1 132)))))))), (h0, .inr (1, [.int 2, .int 1, .int 20, .ref h1])), (h1, .inr (0, [.int 20, .ref h2, .int 5]))] H7 := hP
  have hD : va_D A [(h2, .inl (kc0, 10, .inr (.inr (.inr (.inr (va_up (va_up (va_up (va_up (va_up (fun _ => none) 0 (some (z.2.2.1 128))) 1 (some (z.2.2.1 129))) 2 (some (z.2.2.1 130))) 3 (some (z.2.2.1 131))) 4 (some (z.2.2.1 132)))))))), (h0, .inr (1, [.int 2, .int 1, .int 20, .ref h1])), (h1, .inr (0, [.int 20, .ref h2, .int 5]))] := hD
  refine va_aldq hx hb hK hP 0 0 rfl rfl (i := 1) (by unfold vp_in; decide) dJx35411_next_0502b_64 ?_
  refine W.eq (g2 := F0 m 65 ls [.ref (z.2.2.1 129)]) rfl ?_
  exact W.aret (v := .ref (z.2.2.1 129)) hx hb hr (by first | exact Or.inl ⟨_, rfl⟩ | exact Or.inr ⟨_, rfl⟩) (Or.inr ⟨_, rfl⟩) (fun t9 ht9 hW9 => ⟨⟨(), (z.2.2.1 129), rfl, trivial, ⟨rfl, ⟨pq_mk (wc := [(h0, .inr (1, [.int 2, .int 1, .int 20, .ref h1])), (h1, .inr (0, [.int 20, .ref h2, .int 5])), (h2, .inl (kc0, 10, .inr (.inr (.inr (.inr (va_up (va_up (va_up (va_up (va_up (fun _ => none) 0 (some (z.2.2.1 128))) 1 (some (z.2.2.1 129))) 2 (some (z.2.2.1 130))) 3 (some (z.2.2.1 131))) 4 (some (z.2.2.1 132))))))))]) (tc := [(kc0, .object "java/lang/Object")]) hP hD hK [1, 2, 0] [0] rfl rfl rfl rfl ht9 hW9, by rw [ht9]; exact Nat.le_trans (Nat.add_le_add_left (Nat.le_of_ble_eq_true rfl) _) hG⟩⟩⟩, hS.F ht9⟩) hS.2.2 dJx35411_next_0502b_65

set_option maxHeartbeats 4000000 in
set_option maxRecDepth 100000 in
theorem k466_hasNext (l : Launch) (hl9 : l.stackTraces = false) (dC : Nat → ClassId) (dI : Nat → Nat → Nat) (z : XZ) (h0 h1 : Nat) (o0 : Nat) (sz : Nat) : Met l yJx35411_hasNext_aae02 (.code yJx35411_hasNext_aae02 cJx35411_hasNext_aae02 1 (some .boolean) :: wsL_law) ({ frames := 0, cells := 0, slots := 0, locals := 0 }) (va_Pc [.ref h0] (PC (dC, dI) [(h0, .inr (1, [.int 2, .int 1, .int 20, .ref h1])), (h1, .inr (0, [.int 20, .ref o0, .int 5]))] [] sz z)) (va_Qi (fun (r : Int32) (_ : Unit) => r = 1) (fun (_ : Unit) (t : State) => PG (dC, dI) [(h0, .inr (1, [.int 2, .int 1, .int 20, .ref h1])), (h1, .inr (0, [.int 20, .ref o0, .int 5]))] [] (va_A [(h0, .inr (1, [.int 2, .int 1, .int 20, .ref h1])), (h1, .inr (0, [.int 20, .ref o0, .int 5]))] sz) sz 0 t) (va_A [(h0, .inr (1, [.int 2, .int 1, .int 20, .ref h1])), (h1, .inr (0, [.int 20, .ref o0, .int 5]))] sz)) 0 0 (va_A [(h0, .inr (1, [.int 2, .int 1, .int 20, .ref h1])), (h1, .inr (0, [.int 20, .ref o0, .int 5]))] sz) := by
  refine Met.ofW (cc := cJx35411_hasNext_aae02) (maxL := 1) (ret := (some .boolean)) (by decide) rfl ?_
  intro p e s m args below meth c s₁ B hml hv
  obtain ⟨rfl, hsz, hP, hK, hD0, hX, hT⟩ := hv
  have hx := B.exec
  have hb := B.bytes
  have hr := B.returns
  have hts0 := atoms_spec (ws := .code yJx35411_hasNext_aae02 cJx35411_hasNext_aae02 1 (some .boolean) :: wsL_law) B.pre
  have hts := xTail hts0
  have hown : s.vm.findClass RJx35411 = some m.cls := findClass_of_methodNamed B.named
  have hlocks := B.notSynchronized
  subst hsz
  have hD := hD0.self (sz := s.heap.size)
  generalize hAe : va_A [(h0, .inr (1, [.int 2, .int 1, .int 20, .ref h1])), (h1, .inr (0, [.int 20, .ref o0, .int 5]))] s.heap.size = A at hD hX ⊢
  have hA : ∀ q : Nat, s.heap.size ≤ q → A q := fun q h => by rw [← hAe]; exact Or.inr h
  have hS : va_S A s.heap s.heap [] := va_S.rf
  have hG : s.heap.size + 0 ≤ s.heap.size := Nat.le_refl _
  have hl := lv_entry ([.ref h0]) (n := 1) (Nat.le_of_ble_eq_true rfl)
  rw [lg_entry_eq]
  generalize (lg_sl ([.ref h0]) ++ List.replicate (1 - (lg_sl ([.ref h0])).length) Slot.unset).toArray = ls at hl ⊢
  have hl : lv_has ls 1 [(0, .ref h0)] := hl
  refine lv_aload_n hx hb dJx35411_hasNext_aae02_0 rfl (lv_at hl 0 rfl) ?_
  refine va_get (D := (dC, dI)) (ci := 1) (v := .int 2) (C := RJx35411) (T := TJx35411) (N := 4) hx hb hts in_Jx35411 hown hK hP 0 rfl rfl 0 (by decide) (hts _ q_259) (fun _ h9 => h9) rfl dJx35411_hasNext_aae02_1 ?_
  refine lv_aload_n hx hb dJx35411_hasNext_aae02_4 rfl (lv_at hl 0 rfl) ?_
  refine va_get (D := (dC, dI)) (ci := 1) (v := .ref h1) (C := RJx35411) (T := TJx35411) (N := 4) hx hb hts in_Jx35411 hown hK hP 0 rfl rfl 3 (by decide) (hts _ q_247) (fun _ h9 => h9) rfl dJx35411_hasNext_aae02_5 ?_
  refine va_getN (D := (dC, dI)) (ci := 0) (v := .int 5) (C := RJx4a65c) (T := TJx4a65c) (N := 3) hx hb hts in_Jx4a65c hown hK hP 1 rfl rfl 2 (by decide) (va_Nw.use rfl hT.2.2.2.2.1) (fun _ h9 => h9) rfl dJx35411_hasNext_aae02_8 ?_
  refine lv_icmp_eq (tgt := 18) hx hb dJx35411_hasNext_aae02_11 (by decide) (fun cz => absurd cz (by decide)) (fun _ => ?_)
  refine lv_iconst (v := 1) hx hb dJx35411_hasNext_aae02_14 (by decide) ?_
  refine lv_goto (tgt := 19) hx hb dJx35411_hasNext_aae02_15 (by decide) ?_
  exact W.zret (v := 1) (ty := .boolean) hx hb hr rfl (fun t9 ht9 hW9 => ⟨⟨1, (), rfl, rfl, ⟨pq_mk (wc := [(h0, .inr (1, [.int 2, .int 1, .int 20, .ref h1])), (h1, .inr (0, [.int 20, .ref o0, .int 5]))]) (tc := []) hP hD hK [0, 1] [] rfl rfl rfl rfl ht9 hW9, by rw [ht9]; exact Nat.le_trans (Nat.add_le_add_left (Nat.le_of_ble_eq_true rfl) _) hG⟩⟩, hS.F ht9⟩) hS.2.2 dJx35411_hasNext_aae02_19

set_option maxHeartbeats 4000000 in
set_option maxRecDepth 100000 in
theorem k467_checkForComodification (l : Launch) (hl9 : l.stackTraces = false) (dC : Nat → ClassId) (dI : Nat → Nat → Nat) (z : XZ) (h0 h1 : Nat) (o0 : Nat) (sz : Nat) : Met l yJx35411_checkForComodification_da8c8 (.code yJx35411_checkForComodification_da8c8 cJx35411_checkForComodification_da8c8 1 none :: wsL_law) ({ frames := 0, cells := 0, slots := 0, locals := 0 }) (va_Pc [.ref h0] (PC (dC, dI) [(h0, .inr (1, [.int 2, .int 1, .int 20, .ref h1])), (h1, .inr (0, [.int 20, .ref o0, .int 5]))] [] sz z)) (va_Qv (fun (_ : Unit) => True) (fun (_ : Unit) (t : State) => PG (dC, dI) [(h0, .inr (1, [.int 2, .int 1, .int 20, .ref h1])), (h1, .inr (0, [.int 20, .ref o0, .int 5]))] [] (va_A [(h0, .inr (1, [.int 2, .int 1, .int 20, .ref h1])), (h1, .inr (0, [.int 20, .ref o0, .int 5]))] sz) sz 0 t) (va_A [(h0, .inr (1, [.int 2, .int 1, .int 20, .ref h1])), (h1, .inr (0, [.int 20, .ref o0, .int 5]))] sz)) 0 0 (va_A [(h0, .inr (1, [.int 2, .int 1, .int 20, .ref h1])), (h1, .inr (0, [.int 20, .ref o0, .int 5]))] sz) := by
  refine Met.ofW (cc := cJx35411_checkForComodification_da8c8) (maxL := 1) (ret := none) (by decide) rfl ?_
  intro p e s m args below meth c s₁ B hml hv
  obtain ⟨rfl, hsz, hP, hK, hD0, hX, hT⟩ := hv
  have hx := B.exec
  have hb := B.bytes
  have hr := B.returns
  have hts0 := atoms_spec (ws := .code yJx35411_checkForComodification_da8c8 cJx35411_checkForComodification_da8c8 1 none :: wsL_law) B.pre
  have hts := xTail hts0
  have hown : s.vm.findClass RJx35411 = some m.cls := findClass_of_methodNamed B.named
  have hlocks := B.notSynchronized
  subst hsz
  have hD := hD0.self (sz := s.heap.size)
  generalize hAe : va_A [(h0, .inr (1, [.int 2, .int 1, .int 20, .ref h1])), (h1, .inr (0, [.int 20, .ref o0, .int 5]))] s.heap.size = A at hD hX ⊢
  have hA : ∀ q : Nat, s.heap.size ≤ q → A q := fun q h => by rw [← hAe]; exact Or.inr h
  have hS : va_S A s.heap s.heap [] := va_S.rf
  have hG : s.heap.size + 0 ≤ s.heap.size := Nat.le_refl _
  have hl := lv_entry ([.ref h0]) (n := 1) (Nat.le_of_ble_eq_true rfl)
  rw [lg_entry_eq]
  generalize (lg_sl ([.ref h0]) ++ List.replicate (1 - (lg_sl ([.ref h0])).length) Slot.unset).toArray = ls at hl ⊢
  have hl : lv_has ls 1 [(0, .ref h0)] := hl
  refine lv_aload_n hx hb dJx35411_checkForComodification_da8c8_0 rfl (lv_at hl 0 rfl) ?_
  refine va_get (D := (dC, dI)) (ci := 1) (v := .ref h1) (C := RJx35411) (T := TJx35411) (N := 4) hx hb hts in_Jx35411 hown hK hP 0 rfl rfl 3 (by decide) (hts _ q_247) (fun _ h9 => h9) rfl dJx35411_checkForComodification_da8c8_1 ?_
  refine va_get (D := (dC, dI)) (ci := 0) (v := .int 20) (C := RJx4a65c) (T := TJx4a65c) (N := 3) hx hb hts in_Jx4a65c hown hK hP 1 rfl rfl 0 (by decide) (hts _ q_250) (u_same (hts _ q_107)) rfl dJx35411_checkForComodification_da8c8_4 ?_
  refine lv_aload_n hx hb dJx35411_checkForComodification_da8c8_7 rfl (lv_at hl 0 rfl) ?_
  refine va_get (D := (dC, dI)) (ci := 1) (v := .int 20) (C := RJx35411) (T := TJx35411) (N := 4) hx hb hts in_Jx35411 hown hK hP 0 rfl rfl 2 (by decide) (hts _ q_251) (fun _ h9 => h9) rfl dJx35411_checkForComodification_da8c8_8 ?_
  refine lv_icmp_eq (tgt := 22) hx hb dJx35411_checkForComodification_da8c8_11 (by decide) (fun _ => ?_) (fun cz => absurd (by decide) cz)
  exact W.vret hx hb hr (fun t9 ht9 hW9 => ⟨⟨(), rfl, trivial, ⟨pq_mk (wc := [(h0, .inr (1, [.int 2, .int 1, .int 20, .ref h1])), (h1, .inr (0, [.int 20, .ref o0, .int 5]))]) (tc := []) hP hD hK [0, 1] [] rfl rfl rfl rfl ht9 hW9, by rw [ht9]; exact Nat.le_trans (Nat.add_le_add_left (Nat.le_of_ble_eq_true rfl) _) hG⟩⟩, hS.F ht9⟩) hS.2.2 dJx35411_checkForComodification_da8c8_22

set_option maxHeartbeats 4000000 in
set_option maxRecDepth 100000 in
theorem k468_next (l : Launch) (hl9 : l.stackTraces = false) (dC : Nat → ClassId) (dI : Nat → Nat → Nat) (z : XZ) (h0 h1 h2 : Nat) (sz : Nat) (kc0 : ClassId) : Met l yJx35411_next_0502b (.code yJx35411_next_0502b cJx35411_next_0502b 3 (some (.object "java/lang/Object")) :: wsL_law) ({ frames := 1, cells := 0, slots := 0, locals := 20 }) (va_Pc [.ref h0] (PC (dC, dI) [(h0, .inr (1, [.int 2, .int 1, .int 20, .ref h1])), (h1, .inr (0, [.int 20, .ref h2, .int 5])), (h2, .inl (kc0, 10, .inr (.inr (.inr (.inr (va_up (va_up (va_up (va_up (va_up (fun _ => none) 0 (some (z.2.2.1 128))) 1 (some (z.2.2.1 129))) 2 (some (z.2.2.1 130))) 3 (some (z.2.2.1 131))) 4 (some (z.2.2.1 132))))))))] [(kc0, .object "java/lang/Object")] sz z)) (va_Qr (fun (_ : Unit) => True) (fun (_ : Unit) (ra : Nat) (t : State) => ra = (z.2.2.1 130) ∧ PG (dC, dI) [(h0, .inr (1, [.int 3, .int 2, .int 20, .ref h1])), (h1, .inr (0, [.int 20, .ref h2, .int 5])), (h2, .inl (kc0, 10, .inr (.inr (.inr (.inr (va_up (va_up (va_up (va_up (va_up (fun _ => none) 0 (some (z.2.2.1 128))) 1 (some (z.2.2.1 129))) 2 (some (z.2.2.1 130))) 3 (some (z.2.2.1 131))) 4 (some (z.2.2.1 132))))))))] [(kc0, .object "java/lang/Object")] (va_A [(h0, .inr (1, [.int 2, .int 1, .int 20, .ref h1])), (h1, .inr (0, [.int 20, .ref h2, .int 5])), (h2, .inl (kc0, 10, .inr (.inr (.inr (.inr (va_up (va_up (va_up (va_up (va_up (fun _ => none) 0 (some (z.2.2.1 128))) 1 (some (z.2.2.1 129))) 2 (some (z.2.2.1 130))) 3 (some (z.2.2.1 131))) 4 (some (z.2.2.1 132))))))))] sz) sz 0 t) (va_A [(h0, .inr (1, [.int 2, .int 1, .int 20, .ref h1])), (h1, .inr (0, [.int 20, .ref h2, .int 5])), (h2, .inl (kc0, 10, .inr (.inr (.inr (.inr (va_up (va_up (va_up (va_up (va_up (fun _ => none) 0 (some (z.2.2.1 128))) 1 (some (z.2.2.1 129))) 2 (some (z.2.2.1 130))) 3 (some (z.2.2.1 131))) 4 (some (z.2.2.1 132))))))))] sz)) 0 0 (va_A [(h0, .inr (1, [.int 2, .int 1, .int 20, .ref h1])), (h1, .inr (0, [.int 20, .ref h2, .int 5])), (h2, .inl (kc0, 10, .inr (.inr (.inr (.inr (va_up (va_up (va_up (va_up (va_up (fun _ => none) 0 (some (z.2.2.1 128))) 1 (some (z.2.2.1 129))) 2 (some (z.2.2.1 130))) 3 (some (z.2.2.1 131))) 4 (some (z.2.2.1 132))))))))] sz) := by
  refine Met.ofW (cc := cJx35411_next_0502b) (maxL := 3) (ret := (some (.object "java/lang/Object"))) (by decide) rfl ?_
  intro p e s m args below meth c s₁ B hml hv
  obtain ⟨rfl, hsz, hP, hK, hD0, hX, hT⟩ := hv
  have hx := B.exec
  have hb := B.bytes
  have hr := B.returns
  have hts0 := atoms_spec (ws := .code yJx35411_next_0502b cJx35411_next_0502b 3 (some (.object "java/lang/Object")) :: wsL_law) B.pre
  have hts := xTail hts0
  have hown : s.vm.findClass RJx35411 = some m.cls := findClass_of_methodNamed B.named
  have hlocks := B.notSynchronized
  subst hsz
  have hD := hD0.self (sz := s.heap.size)
  generalize hAe : va_A [(h0, .inr (1, [.int 2, .int 1, .int 20, .ref h1])), (h1, .inr (0, [.int 20, .ref h2, .int 5])), (h2, .inl (kc0, 10, .inr (.inr (.inr (.inr (va_up (va_up (va_up (va_up (va_up (fun _ => none) 0 (some (z.2.2.1 128))) 1 (some (z.2.2.1 129))) 2 (some (z.2.2.1 130))) 3 (some (z.2.2.1 131))) 4 (some (z.2.2.1 132))))))))] s.heap.size = A at hD hX ⊢
  have hA : ∀ q : Nat, s.heap.size ≤ q → A q := fun q h => by rw [← hAe]; exact Or.inr h
  have hS : va_S A s.heap s.heap [] := va_S.rf
  have hG : s.heap.size + 0 ≤ s.heap.size := Nat.le_refl _
  have hl := lv_entry ([.ref h0]) (n := 3) (Nat.le_of_ble_eq_true rfl)
  rw [lg_entry_eq]
  generalize (lg_sl ([.ref h0]) ++ List.replicate (3 - (lg_sl ([.ref h0])).length) Slot.unset).toArray = ls at hl ⊢
  have hl : lv_has ls 3 [(0, .ref h0)] := hl
  refine lv_aload_n hx hb dJx35411_next_0502b_0 rfl (lv_at hl 0 rfl) ?_
  have hF1 := va_free (wc := [(h0, .inr (1, [.int 2, .int 1, .int 20, .ref h1])), (h1, .inr (0, [.int 20, .ref h2, .int 5]))]) hD hS hA [0, 1] rfl
  refine va_callv (va_runV (As := []) (rest := []) ⟨hx, hb, hml, hown, hts⟩ (k467_checkForComodification l hl9 dC dI z h0 h1 h2 s.heap.size) (cwV 0 hts (gV q_303 q_304 q_305 q_246 q_302) rfl rfl rfl (by decide +kernel) ⟨Nat.le_of_ble_eq_true rfl, Nat.le_of_ble_eq_true rfl⟩) ⟨pc_blind, va_recv hK hP (ci := 1) (q0 := 0) rfl rfl, fun U hU hW => ⟨rfl, pc_mk hP hD hK hS hX hT [0, 1] [] rfl rfl rfl rfl hF1 hU hW⟩⟩ rfl rfl hl.1 rfl (lv_room (Nat.le_of_ble_eq_true rfl)) dJx35411_next_0502b_1 ⟨(Nat.le_of_ble_eq_true rfl), (Nat.le_of_ble_eq_true rfl)⟩) hS (fun q9 _ h9 => hF1 q9 h9) hF1 (fun u3 t3 H3 L3 ht3 hvm3 hw3 hB3 hz3 hk3 hS => ?_)
  obtain ⟨hP, hD, hK⟩ := pq_join (wr := [(h2, .inl (kc0, 10, .inr (.inr (.inr (.inr (va_up (va_up (va_up (va_up (va_up (fun _ => none) 0 (some (z.2.2.1 128))) 1 (some (z.2.2.1 129))) 2 (some (z.2.2.1 130))) 3 (some (z.2.2.1 131))) 4 (some (z.2.2.1 132))))))))]) (tr := [(kc0, .object "java/lang/Object")]) (wz := [(h2, .inl (kc0, 10, .inr (.inr (.inr (.inr (va_up (va_up (va_up (va_up (va_up (fun _ => none) 0 (some (z.2.2.1 128))) 1 (some (z.2.2.1 129))) 2 (some (z.2.2.1 130))) 3 (some (z.2.2.1 131))) 4 (some (z.2.2.1 132)))))))), (h0, .inr (1, [.int 2, .int 1, .int 20, .ref h1])), (h1, .inr (0, [.int 20, .ref h2, .int 5]))]) (tz := [(kc0, .object "java/lang/Object")]) hP hD hK [0, 1] [2] [0] rfl rfl (by decide) (by decide) rfl hk3 hF1 hB3.1 ht3 hvm3 rfl rfl
  have hG : s.heap.size + 0 ≤ H3.size := Nat.le_trans hG hz3
  refine lv_aload_n hx hb dJx35411_next_0502b_4 rfl (lv_at hl 0 rfl) ?_
  refine va_get (D := (dC, dI)) (ci := 1) (v := .int 2) (C := RJx35411) (T := TJx35411) (N := 4) hx hb hts in_Jx35411 hown hK hP 1 rfl rfl 0 (by decide) (hts _ q_259) (fun _ h9 => h9) rfl dJx35411_next_0502b_5 ?_
  refine lv_istore_n (lv' := [(1, .int 2), (0, .ref h0)]) hx hb dJx35411_next_0502b_8 rfl hl (by decide) rfl (fun ls hl => ?_)
  refine lv_iload_n hx hb dJx35411_next_0502b_9 rfl (lv_at hl 0 rfl) ?_
  refine lv_aload_n hx hb dJx35411_next_0502b_10 rfl (lv_at hl 1 rfl) ?_
  refine va_get (D := (dC, dI)) (ci := 1) (v := .ref h1) (C := RJx35411) (T := TJx35411) (N := 4) hx hb hts in_Jx35411 hown hK hP 1 rfl rfl 3 (by decide) (hts _ q_247) (fun _ h9 => h9) rfl dJx35411_next_0502b_11 ?_
  refine va_getN (D := (dC, dI)) (ci := 0) (v := .int 5) (C := RJx4a65c) (T := TJx4a65c) (N := 3) hx hb hts in_Jx4a65c hown hK hP 2 rfl rfl 2 (by decide) (va_Nw.use rfl hT.2.2.2.2.1) (fun _ h9 => h9) rfl dJx35411_next_0502b_14 ?_
  refine lv_icmp_lt (tgt := 28) hx hb dJx35411_next_0502b_17 (by decide) (fun _ => ?_) (fun cz => absurd (by decide) cz)
  refine lv_aload_n hx hb dJx35411_next_0502b_28 rfl (lv_at hl 1 rfl) ?_
  refine va_get (D := (dC, dI)) (ci := 1) (v := .ref h1) (C := RJx35411) (T := TJx35411) (N := 4) hx hb hts in_Jx35411 hown hK hP 1 rfl rfl 3 (by decide) (hts _ q_247) (fun _ h9 => h9) rfl dJx35411_next_0502b_29 ?_
  refine va_get (D := (dC, dI)) (ci := 0) (v := .ref h2) (C := RJx4a65c) (T := TJx4a65c) (N := 3) hx hb hts in_Jx4a65c hown hK hP 2 rfl rfl 1 (by decide) (hts _ q_306) (fun _ h9 => h9) rfl dJx35411_next_0502b_32 ?_
  refine lv_astore_n (lv' := [(2, .ref h2), (1, .int 2), (0, .ref h0)]) hx hb dJx35411_next_0502b_35 rfl hl (by decide) rfl (fun ls hl => ?_)
  refine lv_iload_n hx hb dJx35411_next_0502b_36 rfl (lv_at hl 1 rfl) ?_
  refine lv_aload_n hx hb dJx35411_next_0502b_37 rfl (lv_at hl 0 rfl) ?_
  refine va_alen hx hb hK hP 0 0 rfl rfl (v := 10) rfl dJx35411_next_0502b_38 ?_
  refine lv_icmp_lt (tgt := 50) hx hb dJx35411_next_0502b_39 (by decide) (fun _ => ?_) (fun cz => absurd (by decide) cz)
  refine lv_aload_n hx hb dJx35411_next_0502b_50 rfl (lv_at hl 2 rfl) ?_
  refine lv_iload_n hx hb dJx35411_next_0502b_51 rfl (lv_at hl 1 rfl) ?_
  refine lv_iconst (v := 1) hx hb dJx35411_next_0502b_52 (by decide) ?_
  refine lv_iadd hx hb dJx35411_next_0502b_53 ?_
  refine lv_topi (fun y5 ey5 => ?_)
  obtain rfl : y5 = 3 := ey5.trans (by decide)
  refine va_put (D := (dC, dI)) (ci := 1) (v := .int 3) (ty := .int) (C := RJx35411) (T := TJx35411) (N := 4) hx hb hts in_Jx35411 tyJx35411 tyJx35411_ok nmJx35411 hown hK hP hD (va_Sre hS) 1 rfl rfl 0 (by decide) (hts _ q_259) (fun _ h9 => h9) rfl (by decide +kernel) rfl rfl (Nat.le_of_ble_eq_true rfl) dJx35411_next_0502b_54 (fun H6 _ hP hD hS' => ?_)
  have hG : s.heap.size + 0 ≤ H6.size := Nat.le_trans hG hS'.1
  have hS := va_Str hS hS'
  have hP : va_P (dC, dI) xCl [(h2, .inl (kc0, 10, .inr (.inr (.inr (.inr (va_up (va_up (va_up (va_up (va_up (fun _ => none) 0 (some (z.2.2.1 128))) 1 (some (z.2.2.1 129))) 2 (some (z.2.2.1 130))) 3 (some (z.2.2.1 131))) 4 (some (z.2.2.1 132)))))))), (h0, .inr (1, [.int 3, .int 1, .int 20, .ref h1])), (h1, .inr (0, [.int 20, .ref h2, .int 5]))] H6 := hP
  have hD : va_D A [(h2, .inl (kc0, 10, .inr (.inr (.inr (.inr (va_up (va_up (va_up (va_up (va_up (fun _ => none) 0 (some (z.2.2.1 128))) 1 (some (z.2.2.1 129))) 2 (some (z.2.2.1 130))) 3 (some (z.2.2.1 131))) 4 (some (z.2.2.1 132)))))))), (h0, .inr (1, [.int 3, .int 1, .int 20, .ref h1])), (h1, .inr (0, [.int 20, .ref h2, .int 5]))] := hD
  refine lv_aload_n hx hb dJx35411_next_0502b_57 rfl (lv_at hl 0 rfl) ?_
  refine lv_aload_n hx hb dJx35411_next_0502b_58 rfl (lv_at hl 2 rfl) ?_
  refine lv_iload_n hx hb dJx35411_next_0502b_59 rfl (lv_at hl 1 rfl) ?_
  refine lv_dup_x1 hx hb dJx35411_next_0502b_60 rfl rfl ?_
  refine va_put (D := (dC, dI)) (ci := 1) (v := .int 2) (ty := .int) (C := RJx35411) (T := TJx35411) (N := 4) hx hb hts in_Jx35411 tyJx35411 tyJx35411_ok nmJx35411 hown hK hP hD (va_Sre hS) 1 rfl rfl 1 (by decide) (hts _ q_249) (fun _ h9 => h9) rfl (by decide +kernel) rfl rfl (Nat.le_of_ble_eq_true rfl) dJx35411_next_0502b_61 (fun H7 _ hP hD hS' => ?_)
  have hG : s.heap.size + 0 ≤ H7.size := Nat.le_trans hG hS'.1
  have hS := va_Str hS hS'
  have hP : va_P (dC, dI) xCl [(h2, .inl (kc0, 10, .inr (.inr (.inr (.inr (va_up (va_up (va_up (va_up (va_up (fun _ => none) 0 (some (z.2.2.1 128))) 1 (some (z.2.2.1 129))) 2 (some (z.2.2.1 130))) 3 (some (z.2.2.1 131))) 4 (some (z.2.2.1 132)))))))), (h0, .inr (1, [.int 3, .int 2, .int 20, .ref h1])), (h1, .inr (0, [.int 20, .ref h2, .int 5]))] H7 := hP
  have hD : va_D A [(h2, .inl (kc0, 10, .inr (.inr (.inr (.inr (va_up (va_up (va_up (va_up (va_up (fun _ => none) 0 (some (z.2.2.1 128))) 1 (some (z.2.2.1 129))) 2 (some (z.2.2.1 130))) 3 (some (z.2.2.1 131))) 4 (some (z.2.2.1 132)))))))), (h0, .inr (1, [.int 3, .int 2, .int 20, .ref h1])), (h1, .inr (0, [.int 20, .ref h2, .int 5]))] := hD
  refine va_aldq hx hb hK hP 0 0 rfl rfl (i := 2) (by unfold vp_in; decide) dJx35411_next_0502b_64 ?_
  refine W.eq (g2 := F0 m 65 ls [.ref (z.2.2.1 130)]) rfl ?_
  exact W.aret (v := .ref (z.2.2.1 130)) hx hb hr (by first | exact Or.inl ⟨_, rfl⟩ | exact Or.inr ⟨_, rfl⟩) (Or.inr ⟨_, rfl⟩) (fun t9 ht9 hW9 => ⟨⟨(), (z.2.2.1 130), rfl, trivial, ⟨rfl, ⟨pq_mk (wc := [(h0, .inr (1, [.int 3, .int 2, .int 20, .ref h1])), (h1, .inr (0, [.int 20, .ref h2, .int 5])), (h2, .inl (kc0, 10, .inr (.inr (.inr (.inr (va_up (va_up (va_up (va_up (va_up (fun _ => none) 0 (some (z.2.2.1 128))) 1 (some (z.2.2.1 129))) 2 (some (z.2.2.1 130))) 3 (some (z.2.2.1 131))) 4 (some (z.2.2.1 132))))))))]) (tc := [(kc0, .object "java/lang/Object")]) hP hD hK [1, 2, 0] [0] rfl rfl rfl rfl ht9 hW9, by rw [ht9]; exact Nat.le_trans (Nat.add_le_add_left (Nat.le_of_ble_eq_true rfl) _) hG⟩⟩⟩, hS.F ht9⟩) hS.2.2 dJx35411_next_0502b_65

set_option maxHeartbeats 4000000 in
set_option maxRecDepth 100000 in
theorem k469_hasNext (l : Launch) (hl9 : l.stackTraces = false) (dC : Nat → ClassId) (dI : Nat → Nat → Nat) (z : XZ) (h0 h1 : Nat) (o0 : Nat) (sz : Nat) : Met l yJx35411_hasNext_aae02 (.code yJx35411_hasNext_aae02 cJx35411_hasNext_aae02 1 (some .boolean) :: wsL_law) ({ frames := 0, cells := 0, slots := 0, locals := 0 }) (va_Pc [.ref h0] (PC (dC, dI) [(h0, .inr (1, [.int 3, .int 2, .int 20, .ref h1])), (h1, .inr (0, [.int 20, .ref o0, .int 5]))] [] sz z)) (va_Qi (fun (r : Int32) (_ : Unit) => r = 1) (fun (_ : Unit) (t : State) => PG (dC, dI) [(h0, .inr (1, [.int 3, .int 2, .int 20, .ref h1])), (h1, .inr (0, [.int 20, .ref o0, .int 5]))] [] (va_A [(h0, .inr (1, [.int 3, .int 2, .int 20, .ref h1])), (h1, .inr (0, [.int 20, .ref o0, .int 5]))] sz) sz 0 t) (va_A [(h0, .inr (1, [.int 3, .int 2, .int 20, .ref h1])), (h1, .inr (0, [.int 20, .ref o0, .int 5]))] sz)) 0 0 (va_A [(h0, .inr (1, [.int 3, .int 2, .int 20, .ref h1])), (h1, .inr (0, [.int 20, .ref o0, .int 5]))] sz) := by
  refine Met.ofW (cc := cJx35411_hasNext_aae02) (maxL := 1) (ret := (some .boolean)) (by decide) rfl ?_
  intro p e s m args below meth c s₁ B hml hv
  obtain ⟨rfl, hsz, hP, hK, hD0, hX, hT⟩ := hv
  have hx := B.exec
  have hb := B.bytes
  have hr := B.returns
  have hts0 := atoms_spec (ws := .code yJx35411_hasNext_aae02 cJx35411_hasNext_aae02 1 (some .boolean) :: wsL_law) B.pre
  have hts := xTail hts0
  have hown : s.vm.findClass RJx35411 = some m.cls := findClass_of_methodNamed B.named
  have hlocks := B.notSynchronized
  subst hsz
  have hD := hD0.self (sz := s.heap.size)
  generalize hAe : va_A [(h0, .inr (1, [.int 3, .int 2, .int 20, .ref h1])), (h1, .inr (0, [.int 20, .ref o0, .int 5]))] s.heap.size = A at hD hX ⊢
  have hA : ∀ q : Nat, s.heap.size ≤ q → A q := fun q h => by rw [← hAe]; exact Or.inr h
  have hS : va_S A s.heap s.heap [] := va_S.rf
  have hG : s.heap.size + 0 ≤ s.heap.size := Nat.le_refl _
  have hl := lv_entry ([.ref h0]) (n := 1) (Nat.le_of_ble_eq_true rfl)
  rw [lg_entry_eq]
  generalize (lg_sl ([.ref h0]) ++ List.replicate (1 - (lg_sl ([.ref h0])).length) Slot.unset).toArray = ls at hl ⊢
  have hl : lv_has ls 1 [(0, .ref h0)] := hl
  refine lv_aload_n hx hb dJx35411_hasNext_aae02_0 rfl (lv_at hl 0 rfl) ?_
  refine va_get (D := (dC, dI)) (ci := 1) (v := .int 3) (C := RJx35411) (T := TJx35411) (N := 4) hx hb hts in_Jx35411 hown hK hP 0 rfl rfl 0 (by decide) (hts _ q_259) (fun _ h9 => h9) rfl dJx35411_hasNext_aae02_1 ?_
  refine lv_aload_n hx hb dJx35411_hasNext_aae02_4 rfl (lv_at hl 0 rfl) ?_
  refine va_get (D := (dC, dI)) (ci := 1) (v := .ref h1) (C := RJx35411) (T := TJx35411) (N := 4) hx hb hts in_Jx35411 hown hK hP 0 rfl rfl 3 (by decide) (hts _ q_247) (fun _ h9 => h9) rfl dJx35411_hasNext_aae02_5 ?_
  refine va_getN (D := (dC, dI)) (ci := 0) (v := .int 5) (C := RJx4a65c) (T := TJx4a65c) (N := 3) hx hb hts in_Jx4a65c hown hK hP 1 rfl rfl 2 (by decide) (va_Nw.use rfl hT.2.2.2.2.1) (fun _ h9 => h9) rfl dJx35411_hasNext_aae02_8 ?_
  refine lv_icmp_eq (tgt := 18) hx hb dJx35411_hasNext_aae02_11 (by decide) (fun cz => absurd cz (by decide)) (fun _ => ?_)
  refine lv_iconst (v := 1) hx hb dJx35411_hasNext_aae02_14 (by decide) ?_
  refine lv_goto (tgt := 19) hx hb dJx35411_hasNext_aae02_15 (by decide) ?_
  exact W.zret (v := 1) (ty := .boolean) hx hb hr rfl (fun t9 ht9 hW9 => ⟨⟨1, (), rfl, rfl, ⟨pq_mk (wc := [(h0, .inr (1, [.int 3, .int 2, .int 20, .ref h1])), (h1, .inr (0, [.int 20, .ref o0, .int 5]))]) (tc := []) hP hD hK [0, 1] [] rfl rfl rfl rfl ht9 hW9, by rw [ht9]; exact Nat.le_trans (Nat.add_le_add_left (Nat.le_of_ble_eq_true rfl) _) hG⟩⟩, hS.F ht9⟩) hS.2.2 dJx35411_hasNext_aae02_19

set_option maxHeartbeats 4000000 in
set_option maxRecDepth 100000 in
theorem k470_checkForComodification (l : Launch) (hl9 : l.stackTraces = false) (dC : Nat → ClassId) (dI : Nat → Nat → Nat) (z : XZ) (h0 h1 : Nat) (o0 : Nat) (sz : Nat) : Met l yJx35411_checkForComodification_da8c8 (.code yJx35411_checkForComodification_da8c8 cJx35411_checkForComodification_da8c8 1 none :: wsL_law) ({ frames := 0, cells := 0, slots := 0, locals := 0 }) (va_Pc [.ref h0] (PC (dC, dI) [(h0, .inr (1, [.int 3, .int 2, .int 20, .ref h1])), (h1, .inr (0, [.int 20, .ref o0, .int 5]))] [] sz z)) (va_Qv (fun (_ : Unit) => True) (fun (_ : Unit) (t : State) => PG (dC, dI) [(h0, .inr (1, [.int 3, .int 2, .int 20, .ref h1])), (h1, .inr (0, [.int 20, .ref o0, .int 5]))] [] (va_A [(h0, .inr (1, [.int 3, .int 2, .int 20, .ref h1])), (h1, .inr (0, [.int 20, .ref o0, .int 5]))] sz) sz 0 t) (va_A [(h0, .inr (1, [.int 3, .int 2, .int 20, .ref h1])), (h1, .inr (0, [.int 20, .ref o0, .int 5]))] sz)) 0 0 (va_A [(h0, .inr (1, [.int 3, .int 2, .int 20, .ref h1])), (h1, .inr (0, [.int 20, .ref o0, .int 5]))] sz) := by
  refine Met.ofW (cc := cJx35411_checkForComodification_da8c8) (maxL := 1) (ret := none) (by decide) rfl ?_
  intro p e s m args below meth c s₁ B hml hv
  obtain ⟨rfl, hsz, hP, hK, hD0, hX, hT⟩ := hv
  have hx := B.exec
  have hb := B.bytes
  have hr := B.returns
  have hts0 := atoms_spec (ws := .code yJx35411_checkForComodification_da8c8 cJx35411_checkForComodification_da8c8 1 none :: wsL_law) B.pre
  have hts := xTail hts0
  have hown : s.vm.findClass RJx35411 = some m.cls := findClass_of_methodNamed B.named
  have hlocks := B.notSynchronized
  subst hsz
  have hD := hD0.self (sz := s.heap.size)
  generalize hAe : va_A [(h0, .inr (1, [.int 3, .int 2, .int 20, .ref h1])), (h1, .inr (0, [.int 20, .ref o0, .int 5]))] s.heap.size = A at hD hX ⊢
  have hA : ∀ q : Nat, s.heap.size ≤ q → A q := fun q h => by rw [← hAe]; exact Or.inr h
  have hS : va_S A s.heap s.heap [] := va_S.rf
  have hG : s.heap.size + 0 ≤ s.heap.size := Nat.le_refl _
  have hl := lv_entry ([.ref h0]) (n := 1) (Nat.le_of_ble_eq_true rfl)
  rw [lg_entry_eq]
  generalize (lg_sl ([.ref h0]) ++ List.replicate (1 - (lg_sl ([.ref h0])).length) Slot.unset).toArray = ls at hl ⊢
  have hl : lv_has ls 1 [(0, .ref h0)] := hl
  refine lv_aload_n hx hb dJx35411_checkForComodification_da8c8_0 rfl (lv_at hl 0 rfl) ?_
  refine va_get (D := (dC, dI)) (ci := 1) (v := .ref h1) (C := RJx35411) (T := TJx35411) (N := 4) hx hb hts in_Jx35411 hown hK hP 0 rfl rfl 3 (by decide) (hts _ q_247) (fun _ h9 => h9) rfl dJx35411_checkForComodification_da8c8_1 ?_
  refine va_get (D := (dC, dI)) (ci := 0) (v := .int 20) (C := RJx4a65c) (T := TJx4a65c) (N := 3) hx hb hts in_Jx4a65c hown hK hP 1 rfl rfl 0 (by decide) (hts _ q_250) (u_same (hts _ q_107)) rfl dJx35411_checkForComodification_da8c8_4 ?_
  refine lv_aload_n hx hb dJx35411_checkForComodification_da8c8_7 rfl (lv_at hl 0 rfl) ?_
  refine va_get (D := (dC, dI)) (ci := 1) (v := .int 20) (C := RJx35411) (T := TJx35411) (N := 4) hx hb hts in_Jx35411 hown hK hP 0 rfl rfl 2 (by decide) (hts _ q_251) (fun _ h9 => h9) rfl dJx35411_checkForComodification_da8c8_8 ?_
  refine lv_icmp_eq (tgt := 22) hx hb dJx35411_checkForComodification_da8c8_11 (by decide) (fun _ => ?_) (fun cz => absurd (by decide) cz)
  exact W.vret hx hb hr (fun t9 ht9 hW9 => ⟨⟨(), rfl, trivial, ⟨pq_mk (wc := [(h0, .inr (1, [.int 3, .int 2, .int 20, .ref h1])), (h1, .inr (0, [.int 20, .ref o0, .int 5]))]) (tc := []) hP hD hK [0, 1] [] rfl rfl rfl rfl ht9 hW9, by rw [ht9]; exact Nat.le_trans (Nat.add_le_add_left (Nat.le_of_ble_eq_true rfl) _) hG⟩⟩, hS.F ht9⟩) hS.2.2 dJx35411_checkForComodification_da8c8_22

set_option maxHeartbeats 4000000 in
set_option maxRecDepth 100000 in
theorem k471_next (l : Launch) (hl9 : l.stackTraces = false) (dC : Nat → ClassId) (dI : Nat → Nat → Nat) (z : XZ) (h0 h1 h2 : Nat) (sz : Nat) (kc0 : ClassId) : Met l yJx35411_next_0502b (.code yJx35411_next_0502b cJx35411_next_0502b 3 (some (.object "java/lang/Object")) :: wsL_law) ({ frames := 1, cells := 0, slots := 0, locals := 20 }) (va_Pc [.ref h0] (PC (dC, dI) [(h0, .inr (1, [.int 3, .int 2, .int 20, .ref h1])), (h1, .inr (0, [.int 20, .ref h2, .int 5])), (h2, .inl (kc0, 10, .inr (.inr (.inr (.inr (va_up (va_up (va_up (va_up (va_up (fun _ => none) 0 (some (z.2.2.1 128))) 1 (some (z.2.2.1 129))) 2 (some (z.2.2.1 130))) 3 (some (z.2.2.1 131))) 4 (some (z.2.2.1 132))))))))] [(kc0, .object "java/lang/Object")] sz z)) (va_Qr (fun (_ : Unit) => True) (fun (_ : Unit) (ra : Nat) (t : State) => ra = (z.2.2.1 131) ∧ PG (dC, dI) [(h0, .inr (1, [.int 4, .int 3, .int 20, .ref h1])), (h1, .inr (0, [.int 20, .ref h2, .int 5])), (h2, .inl (kc0, 10, .inr (.inr (.inr (.inr (va_up (va_up (va_up (va_up (va_up (fun _ => none) 0 (some (z.2.2.1 128))) 1 (some (z.2.2.1 129))) 2 (some (z.2.2.1 130))) 3 (some (z.2.2.1 131))) 4 (some (z.2.2.1 132))))))))] [(kc0, .object "java/lang/Object")] (va_A [(h0, .inr (1, [.int 3, .int 2, .int 20, .ref h1])), (h1, .inr (0, [.int 20, .ref h2, .int 5])), (h2, .inl (kc0, 10, .inr (.inr (.inr (.inr (va_up (va_up (va_up (va_up (va_up (fun _ => none) 0 (some (z.2.2.1 128))) 1 (some (z.2.2.1 129))) 2 (some (z.2.2.1 130))) 3 (some (z.2.2.1 131))) 4 (some (z.2.2.1 132))))))))] sz) sz 0 t) (va_A [(h0, .inr (1, [.int 3, .int 2, .int 20, .ref h1])), (h1, .inr (0, [.int 20, .ref h2, .int 5])), (h2, .inl (kc0, 10, .inr (.inr (.inr (.inr (va_up (va_up (va_up (va_up (va_up (fun _ => none) 0 (some (z.2.2.1 128))) 1 (some (z.2.2.1 129))) 2 (some (z.2.2.1 130))) 3 (some (z.2.2.1 131))) 4 (some (z.2.2.1 132))))))))] sz)) 0 0 (va_A [(h0, .inr (1, [.int 3, .int 2, .int 20, .ref h1])), (h1, .inr (0, [.int 20, .ref h2, .int 5])), (h2, .inl (kc0, 10, .inr (.inr (.inr (.inr (va_up (va_up (va_up (va_up (va_up (fun _ => none) 0 (some (z.2.2.1 128))) 1 (some (z.2.2.1 129))) 2 (some (z.2.2.1 130))) 3 (some (z.2.2.1 131))) 4 (some (z.2.2.1 132))))))))] sz) := by
  refine Met.ofW (cc := cJx35411_next_0502b) (maxL := 3) (ret := (some (.object "java/lang/Object"))) (by decide) rfl ?_
  intro p e s m args below meth c s₁ B hml hv
  obtain ⟨rfl, hsz, hP, hK, hD0, hX, hT⟩ := hv
  have hx := B.exec
  have hb := B.bytes
  have hr := B.returns
  have hts0 := atoms_spec (ws := .code yJx35411_next_0502b cJx35411_next_0502b 3 (some (.object "java/lang/Object")) :: wsL_law) B.pre
  have hts := xTail hts0
  have hown : s.vm.findClass RJx35411 = some m.cls := findClass_of_methodNamed B.named
  have hlocks := B.notSynchronized
  subst hsz
  have hD := hD0.self (sz := s.heap.size)
  generalize hAe : va_A [(h0, .inr (1, [.int 3, .int 2, .int 20, .ref h1])), (h1, .inr (0, [.int 20, .ref h2, .int 5])), (h2, .inl (kc0, 10, .inr (.inr (.inr (.inr (va_up (va_up (va_up (va_up (va_up (fun _ => none) 0 (some (z.2.2.1 128))) 1 (some (z.2.2.1 129))) 2 (some (z.2.2.1 130))) 3 (some (z.2.2.1 131))) 4 (some (z.2.2.1 132))))))))] s.heap.size = A at hD hX ⊢
  have hA : ∀ q : Nat, s.heap.size ≤ q → A q := fun q h => by rw [← hAe]; exact Or.inr h
  have hS : va_S A s.heap s.heap [] := va_S.rf
  have hG : s.heap.size + 0 ≤ s.heap.size := Nat.le_refl _
  have hl := lv_entry ([.ref h0]) (n := 3) (Nat.le_of_ble_eq_true rfl)
  rw [lg_entry_eq]
  generalize (lg_sl ([.ref h0]) ++ List.replicate (3 - (lg_sl ([.ref h0])).length) Slot.unset).toArray = ls at hl ⊢
  have hl : lv_has ls 3 [(0, .ref h0)] := hl
  refine lv_aload_n hx hb dJx35411_next_0502b_0 rfl (lv_at hl 0 rfl) ?_
  have hF1 := va_free (wc := [(h0, .inr (1, [.int 3, .int 2, .int 20, .ref h1])), (h1, .inr (0, [.int 20, .ref h2, .int 5]))]) hD hS hA [0, 1] rfl
  refine va_callv (va_runV (As := []) (rest := []) ⟨hx, hb, hml, hown, hts⟩ (k470_checkForComodification l hl9 dC dI z h0 h1 h2 s.heap.size) (cwV 0 hts (gV q_303 q_304 q_305 q_246 q_302) rfl rfl rfl (by decide +kernel) ⟨Nat.le_of_ble_eq_true rfl, Nat.le_of_ble_eq_true rfl⟩) ⟨pc_blind, va_recv hK hP (ci := 1) (q0 := 0) rfl rfl, fun U hU hW => ⟨rfl, pc_mk hP hD hK hS hX hT [0, 1] [] rfl rfl rfl rfl hF1 hU hW⟩⟩ rfl rfl hl.1 rfl (lv_room (Nat.le_of_ble_eq_true rfl)) dJx35411_next_0502b_1 ⟨(Nat.le_of_ble_eq_true rfl), (Nat.le_of_ble_eq_true rfl)⟩) hS (fun q9 _ h9 => hF1 q9 h9) hF1 (fun u3 t3 H3 L3 ht3 hvm3 hw3 hB3 hz3 hk3 hS => ?_)
  obtain ⟨hP, hD, hK⟩ := pq_join (wr := [(h2, .inl (kc0, 10, .inr (.inr (.inr (.inr (va_up (va_up (va_up (va_up (va_up (fun _ => none) 0 (some (z.2.2.1 128))) 1 (some (z.2.2.1 129))) 2 (some (z.2.2.1 130))) 3 (some (z.2.2.1 131))) 4 (some (z.2.2.1 132))))))))]) (tr := [(kc0, .object "java/lang/Object")]) (wz := [(h2, .inl (kc0, 10, .inr (.inr (.inr (.inr (va_up (va_up (va_up (va_up (va_up (fun _ => none) 0 (some (z.2.2.1 128))) 1 (some (z.2.2.1 129))) 2 (some (z.2.2.1 130))) 3 (some (z.2.2.1 131))) 4 (some (z.2.2.1 132)))))))), (h0, .inr (1, [.int 3, .int 2, .int 20, .ref h1])), (h1, .inr (0, [.int 20, .ref h2, .int 5]))]) (tz := [(kc0, .object "java/lang/Object")]) hP hD hK [0, 1] [2] [0] rfl rfl (by decide) (by decide) rfl hk3 hF1 hB3.1 ht3 hvm3 rfl rfl
  have hG : s.heap.size + 0 ≤ H3.size := Nat.le_trans hG hz3
  refine lv_aload_n hx hb dJx35411_next_0502b_4 rfl (lv_at hl 0 rfl) ?_
  refine va_get (D := (dC, dI)) (ci := 1) (v := .int 3) (C := RJx35411) (T := TJx35411) (N := 4) hx hb hts in_Jx35411 hown hK hP 1 rfl rfl 0 (by decide) (hts _ q_259) (fun _ h9 => h9) rfl dJx35411_next_0502b_5 ?_
  refine lv_istore_n (lv' := [(1, .int 3), (0, .ref h0)]) hx hb dJx35411_next_0502b_8 rfl hl (by decide) rfl (fun ls hl => ?_)
  refine lv_iload_n hx hb dJx35411_next_0502b_9 rfl (lv_at hl 0 rfl) ?_
  refine lv_aload_n hx hb dJx35411_next_0502b_10 rfl (lv_at hl 1 rfl) ?_
  refine va_get (D := (dC, dI)) (ci := 1) (v := .ref h1) (C := RJx35411) (T := TJx35411) (N := 4) hx hb hts in_Jx35411 hown hK hP 1 rfl rfl 3 (by decide) (hts _ q_247) (fun _ h9 => h9) rfl dJx35411_next_0502b_11 ?_
  refine va_getN (D := (dC, dI)) (ci := 0) (v := .int 5) (C := RJx4a65c) (T := TJx4a65c) (N := 3) hx hb hts in_Jx4a65c hown hK hP 2 rfl rfl 2 (by decide) (va_Nw.use rfl hT.2.2.2.2.1) (fun _ h9 => h9) rfl dJx35411_next_0502b_14 ?_
  refine lv_icmp_lt (tgt := 28) hx hb dJx35411_next_0502b_17 (by decide) (fun _ => ?_) (fun cz => absurd (by decide) cz)
  refine lv_aload_n hx hb dJx35411_next_0502b_28 rfl (lv_at hl 1 rfl) ?_
  refine va_get (D := (dC, dI)) (ci := 1) (v := .ref h1) (C := RJx35411) (T := TJx35411) (N := 4) hx hb hts in_Jx35411 hown hK hP 1 rfl rfl 3 (by decide) (hts _ q_247) (fun _ h9 => h9) rfl dJx35411_next_0502b_29 ?_
  refine va_get (D := (dC, dI)) (ci := 0) (v := .ref h2) (C := RJx4a65c) (T := TJx4a65c) (N := 3) hx hb hts in_Jx4a65c hown hK hP 2 rfl rfl 1 (by decide) (hts _ q_306) (fun _ h9 => h9) rfl dJx35411_next_0502b_32 ?_
  refine lv_astore_n (lv' := [(2, .ref h2), (1, .int 3), (0, .ref h0)]) hx hb dJx35411_next_0502b_35 rfl hl (by decide) rfl (fun ls hl => ?_)
  refine lv_iload_n hx hb dJx35411_next_0502b_36 rfl (lv_at hl 1 rfl) ?_
  refine lv_aload_n hx hb dJx35411_next_0502b_37 rfl (lv_at hl 0 rfl) ?_
  refine va_alen hx hb hK hP 0 0 rfl rfl (v := 10) rfl dJx35411_next_0502b_38 ?_
  refine lv_icmp_lt (tgt := 50) hx hb dJx35411_next_0502b_39 (by decide) (fun _ => ?_) (fun cz => absurd (by decide) cz)
  refine lv_aload_n hx hb dJx35411_next_0502b_50 rfl (lv_at hl 2 rfl) ?_
  refine lv_iload_n hx hb dJx35411_next_0502b_51 rfl (lv_at hl 1 rfl) ?_
  refine lv_iconst (v := 1) hx hb dJx35411_next_0502b_52 (by decide) ?_
  refine lv_iadd hx hb dJx35411_next_0502b_53 ?_
  refine lv_topi (fun y5 ey5 => ?_)
  obtain rfl : y5 = 4 := ey5.trans (by decide)
  refine va_put (D := (dC, dI)) (ci := 1) (v := .int 4) (ty := .int) (C := RJx35411) (T := TJx35411) (N := 4) hx hb hts in_Jx35411 tyJx35411 tyJx35411_ok nmJx35411 hown hK hP hD (va_Sre hS) 1 rfl rfl 0 (by decide) (hts _ q_259) (fun _ h9 => h9) rfl (by decide +kernel) rfl rfl (Nat.le_of_ble_eq_true rfl) dJx35411_next_0502b_54 (fun H6 _ hP hD hS' => ?_)
  have hG : s.heap.size + 0 ≤ H6.size := Nat.le_trans hG hS'.1
  have hS := va_Str hS hS'
  have hP : va_P (dC, dI) xCl [(h2, .inl (kc0, 10, .inr (.inr (.inr (.inr (va_up (va_up (va_up (va_up (va_up (fun _ => none) 0 (some (z.2.2.1 128))) 1 (some (z.2.2.1 129))) 2 (some (z.2.2.1 130))) 3 (some (z.2.2.1 131))) 4 (some (z.2.2.1 132)))))))), (h0, .inr (1, [.int 4, .int 2, .int 20, .ref h1])), (h1, .inr (0, [.int 20, .ref h2, .int 5]))] H6 := hP
  have hD : va_D A [(h2, .inl (kc0, 10, .inr (.inr (.inr (.inr (va_up (va_up (va_up (va_up (va_up (fun _ => none) 0 (some (z.2.2.1 128))) 1 (some (z.2.2.1 129))) 2 (some (z.2.2.1 130))) 3 (some (z.2.2.1 131))) 4 (some (z.2.2.1 132)))))))), (h0, .inr (1, [.int 4, .int 2, .int 20, .ref h1])), (h1, .inr (0, [.int 20, .ref h2, .int 5]))] := hD
  refine lv_aload_n hx hb dJx35411_next_0502b_57 rfl (lv_at hl 0 rfl) ?_
  refine lv_aload_n hx hb dJx35411_next_0502b_58 rfl (lv_at hl 2 rfl) ?_
  refine lv_iload_n hx hb dJx35411_next_0502b_59 rfl (lv_at hl 1 rfl) ?_
  refine lv_dup_x1 hx hb dJx35411_next_0502b_60 rfl rfl ?_
  refine va_put (D := (dC, dI)) (ci := 1) (v := .int 3) (ty := .int) (C := RJx35411) (T := TJx35411) (N := 4) hx hb hts in_Jx35411 tyJx35411 tyJx35411_ok nmJx35411 hown hK hP hD (va_Sre hS) 1 rfl rfl 1 (by decide) (hts _ q_249) (fun _ h9 => h9) rfl (by decide +kernel) rfl rfl (Nat.le_of_ble_eq_true rfl) dJx35411_next_0502b_61 (fun H7 _ hP hD hS' => ?_)
  have hG : s.heap.size + 0 ≤ H7.size := Nat.le_trans hG hS'.1
  have hS := va_Str hS hS'
  have hP : va_P (dC, dI) xCl [(h2, .inl (kc0, 10, .inr (.inr (.inr (.inr (va_up (va_up (va_up (va_up (va_up (fun _ => none) 0 (some (z.2.2.1 128))) 1 (some (z.2.2.1 129))) 2 (some (z.2.2.1 130))) 3 (some (z.2.2.1 131))) 4 (some (z.2.2.1 132)))))))), (h0, .inr (1, [.int 4, .int 3, .int 20, .ref h1])), (h1, .inr (0, [.int 20, .ref h2, .int 5]))] H7 := hP
  have hD : va_D A [(h2, .inl (kc0, 10, .inr (.inr (.inr (.inr (va_up (va_up (va_up (va_up (va_up (fun _ => none) 0 (some (z.2.2.1 128))) 1 (some (z.2.2.1 129))) 2 (some (z.2.2.1 130))) 3 (some (z.2.2.1 131))) 4 (some (z.2.2.1 132)))))))), (h0, .inr (1, [.int 4, .int 3, .int 20, .ref h1])), (h1, .inr (0, [.int 20, .ref h2, .int 5]))] := hD
  refine va_aldq hx hb hK hP 0 0 rfl rfl (i := 3) (by unfold vp_in; decide) dJx35411_next_0502b_64 ?_
  refine W.eq (g2 := F0 m 65 ls [.ref (z.2.2.1 131)]) rfl ?_
  exact W.aret (v := .ref (z.2.2.1 131)) hx hb hr (by first | exact Or.inl ⟨_, rfl⟩ | exact Or.inr ⟨_, rfl⟩) (Or.inr ⟨_, rfl⟩) (fun t9 ht9 hW9 => ⟨⟨(), (z.2.2.1 131), rfl, trivial, ⟨rfl, ⟨pq_mk (wc := [(h0, .inr (1, [.int 4, .int 3, .int 20, .ref h1])), (h1, .inr (0, [.int 20, .ref h2, .int 5])), (h2, .inl (kc0, 10, .inr (.inr (.inr (.inr (va_up (va_up (va_up (va_up (va_up (fun _ => none) 0 (some (z.2.2.1 128))) 1 (some (z.2.2.1 129))) 2 (some (z.2.2.1 130))) 3 (some (z.2.2.1 131))) 4 (some (z.2.2.1 132))))))))]) (tc := [(kc0, .object "java/lang/Object")]) hP hD hK [1, 2, 0] [0] rfl rfl rfl rfl ht9 hW9, by rw [ht9]; exact Nat.le_trans (Nat.add_le_add_left (Nat.le_of_ble_eq_true rfl) _) hG⟩⟩⟩, hS.F ht9⟩) hS.2.2 dJx35411_next_0502b_65

set_option maxHeartbeats 4000000 in
set_option maxRecDepth 100000 in
theorem k472_hasNext (l : Launch) (hl9 : l.stackTraces = false) (dC : Nat → ClassId) (dI : Nat → Nat → Nat) (z : XZ) (h0 h1 : Nat) (o0 : Nat) (sz : Nat) : Met l yJx35411_hasNext_aae02 (.code yJx35411_hasNext_aae02 cJx35411_hasNext_aae02 1 (some .boolean) :: wsL_law) ({ frames := 0, cells := 0, slots := 0, locals := 0 }) (va_Pc [.ref h0] (PC (dC, dI) [(h0, .inr (1, [.int 4, .int 3, .int 20, .ref h1])), (h1, .inr (0, [.int 20, .ref o0, .int 5]))] [] sz z)) (va_Qi (fun (r : Int32) (_ : Unit) => r = 1) (fun (_ : Unit) (t : State) => PG (dC, dI) [(h0, .inr (1, [.int 4, .int 3, .int 20, .ref h1])), (h1, .inr (0, [.int 20, .ref o0, .int 5]))] [] (va_A [(h0, .inr (1, [.int 4, .int 3, .int 20, .ref h1])), (h1, .inr (0, [.int 20, .ref o0, .int 5]))] sz) sz 0 t) (va_A [(h0, .inr (1, [.int 4, .int 3, .int 20, .ref h1])), (h1, .inr (0, [.int 20, .ref o0, .int 5]))] sz)) 0 0 (va_A [(h0, .inr (1, [.int 4, .int 3, .int 20, .ref h1])), (h1, .inr (0, [.int 20, .ref o0, .int 5]))] sz) := by
  refine Met.ofW (cc := cJx35411_hasNext_aae02) (maxL := 1) (ret := (some .boolean)) (by decide) rfl ?_
  intro p e s m args below meth c s₁ B hml hv
  obtain ⟨rfl, hsz, hP, hK, hD0, hX, hT⟩ := hv
  have hx := B.exec
  have hb := B.bytes
  have hr := B.returns
  have hts0 := atoms_spec (ws := .code yJx35411_hasNext_aae02 cJx35411_hasNext_aae02 1 (some .boolean) :: wsL_law) B.pre
  have hts := xTail hts0
  have hown : s.vm.findClass RJx35411 = some m.cls := findClass_of_methodNamed B.named
  have hlocks := B.notSynchronized
  subst hsz
  have hD := hD0.self (sz := s.heap.size)
  generalize hAe : va_A [(h0, .inr (1, [.int 4, .int 3, .int 20, .ref h1])), (h1, .inr (0, [.int 20, .ref o0, .int 5]))] s.heap.size = A at hD hX ⊢
  have hA : ∀ q : Nat, s.heap.size ≤ q → A q := fun q h => by rw [← hAe]; exact Or.inr h
  have hS : va_S A s.heap s.heap [] := va_S.rf
  have hG : s.heap.size + 0 ≤ s.heap.size := Nat.le_refl _
  have hl := lv_entry ([.ref h0]) (n := 1) (Nat.le_of_ble_eq_true rfl)
  rw [lg_entry_eq]
  generalize (lg_sl ([.ref h0]) ++ List.replicate (1 - (lg_sl ([.ref h0])).length) Slot.unset).toArray = ls at hl ⊢
  have hl : lv_has ls 1 [(0, .ref h0)] := hl
  refine lv_aload_n hx hb dJx35411_hasNext_aae02_0 rfl (lv_at hl 0 rfl) ?_
  refine va_get (D := (dC, dI)) (ci := 1) (v := .int 4) (C := RJx35411) (T := TJx35411) (N := 4) hx hb hts in_Jx35411 hown hK hP 0 rfl rfl 0 (by decide) (hts _ q_259) (fun _ h9 => h9) rfl dJx35411_hasNext_aae02_1 ?_
  refine lv_aload_n hx hb dJx35411_hasNext_aae02_4 rfl (lv_at hl 0 rfl) ?_
  refine va_get (D := (dC, dI)) (ci := 1) (v := .ref h1) (C := RJx35411) (T := TJx35411) (N := 4) hx hb hts in_Jx35411 hown hK hP 0 rfl rfl 3 (by decide) (hts _ q_247) (fun _ h9 => h9) rfl dJx35411_hasNext_aae02_5 ?_
  refine va_getN (D := (dC, dI)) (ci := 0) (v := .int 5) (C := RJx4a65c) (T := TJx4a65c) (N := 3) hx hb hts in_Jx4a65c hown hK hP 1 rfl rfl 2 (by decide) (va_Nw.use rfl hT.2.2.2.2.1) (fun _ h9 => h9) rfl dJx35411_hasNext_aae02_8 ?_
  refine lv_icmp_eq (tgt := 18) hx hb dJx35411_hasNext_aae02_11 (by decide) (fun cz => absurd cz (by decide)) (fun _ => ?_)
  refine lv_iconst (v := 1) hx hb dJx35411_hasNext_aae02_14 (by decide) ?_
  refine lv_goto (tgt := 19) hx hb dJx35411_hasNext_aae02_15 (by decide) ?_
  exact W.zret (v := 1) (ty := .boolean) hx hb hr rfl (fun t9 ht9 hW9 => ⟨⟨1, (), rfl, rfl, ⟨pq_mk (wc := [(h0, .inr (1, [.int 4, .int 3, .int 20, .ref h1])), (h1, .inr (0, [.int 20, .ref o0, .int 5]))]) (tc := []) hP hD hK [0, 1] [] rfl rfl rfl rfl ht9 hW9, by rw [ht9]; exact Nat.le_trans (Nat.add_le_add_left (Nat.le_of_ble_eq_true rfl) _) hG⟩⟩, hS.F ht9⟩) hS.2.2 dJx35411_hasNext_aae02_19

set_option maxHeartbeats 4000000 in
set_option maxRecDepth 100000 in
theorem k473_checkForComodification (l : Launch) (hl9 : l.stackTraces = false) (dC : Nat → ClassId) (dI : Nat → Nat → Nat) (z : XZ) (h0 h1 : Nat) (o0 : Nat) (sz : Nat) : Met l yJx35411_checkForComodification_da8c8 (.code yJx35411_checkForComodification_da8c8 cJx35411_checkForComodification_da8c8 1 none :: wsL_law) ({ frames := 0, cells := 0, slots := 0, locals := 0 }) (va_Pc [.ref h0] (PC (dC, dI) [(h0, .inr (1, [.int 4, .int 3, .int 20, .ref h1])), (h1, .inr (0, [.int 20, .ref o0, .int 5]))] [] sz z)) (va_Qv (fun (_ : Unit) => True) (fun (_ : Unit) (t : State) => PG (dC, dI) [(h0, .inr (1, [.int 4, .int 3, .int 20, .ref h1])), (h1, .inr (0, [.int 20, .ref o0, .int 5]))] [] (va_A [(h0, .inr (1, [.int 4, .int 3, .int 20, .ref h1])), (h1, .inr (0, [.int 20, .ref o0, .int 5]))] sz) sz 0 t) (va_A [(h0, .inr (1, [.int 4, .int 3, .int 20, .ref h1])), (h1, .inr (0, [.int 20, .ref o0, .int 5]))] sz)) 0 0 (va_A [(h0, .inr (1, [.int 4, .int 3, .int 20, .ref h1])), (h1, .inr (0, [.int 20, .ref o0, .int 5]))] sz) := by
  refine Met.ofW (cc := cJx35411_checkForComodification_da8c8) (maxL := 1) (ret := none) (by decide) rfl ?_
  intro p e s m args below meth c s₁ B hml hv
  obtain ⟨rfl, hsz, hP, hK, hD0, hX, hT⟩ := hv
  have hx := B.exec
  have hb := B.bytes
  have hr := B.returns
  have hts0 := atoms_spec (ws := .code yJx35411_checkForComodification_da8c8 cJx35411_checkForComodification_da8c8 1 none :: wsL_law) B.pre
  have hts := xTail hts0
  have hown : s.vm.findClass RJx35411 = some m.cls := findClass_of_methodNamed B.named
  have hlocks := B.notSynchronized
  subst hsz
  have hD := hD0.self (sz := s.heap.size)
  generalize hAe : va_A [(h0, .inr (1, [.int 4, .int 3, .int 20, .ref h1])), (h1, .inr (0, [.int 20, .ref o0, .int 5]))] s.heap.size = A at hD hX ⊢
  have hA : ∀ q : Nat, s.heap.size ≤ q → A q := fun q h => by rw [← hAe]; exact Or.inr h
  have hS : va_S A s.heap s.heap [] := va_S.rf
  have hG : s.heap.size + 0 ≤ s.heap.size := Nat.le_refl _
  have hl := lv_entry ([.ref h0]) (n := 1) (Nat.le_of_ble_eq_true rfl)
  rw [lg_entry_eq]
  generalize (lg_sl ([.ref h0]) ++ List.replicate (1 - (lg_sl ([.ref h0])).length) Slot.unset).toArray = ls at hl ⊢
  have hl : lv_has ls 1 [(0, .ref h0)] := hl
  refine lv_aload_n hx hb dJx35411_checkForComodification_da8c8_0 rfl (lv_at hl 0 rfl) ?_
  refine va_get (D := (dC, dI)) (ci := 1) (v := .ref h1) (C := RJx35411) (T := TJx35411) (N := 4) hx hb hts in_Jx35411 hown hK hP 0 rfl rfl 3 (by decide) (hts _ q_247) (fun _ h9 => h9) rfl dJx35411_checkForComodification_da8c8_1 ?_
  refine va_get (D := (dC, dI)) (ci := 0) (v := .int 20) (C := RJx4a65c) (T := TJx4a65c) (N := 3) hx hb hts in_Jx4a65c hown hK hP 1 rfl rfl 0 (by decide) (hts _ q_250) (u_same (hts _ q_107)) rfl dJx35411_checkForComodification_da8c8_4 ?_
  refine lv_aload_n hx hb dJx35411_checkForComodification_da8c8_7 rfl (lv_at hl 0 rfl) ?_
  refine va_get (D := (dC, dI)) (ci := 1) (v := .int 20) (C := RJx35411) (T := TJx35411) (N := 4) hx hb hts in_Jx35411 hown hK hP 0 rfl rfl 2 (by decide) (hts _ q_251) (fun _ h9 => h9) rfl dJx35411_checkForComodification_da8c8_8 ?_
  refine lv_icmp_eq (tgt := 22) hx hb dJx35411_checkForComodification_da8c8_11 (by decide) (fun _ => ?_) (fun cz => absurd (by decide) cz)
  exact W.vret hx hb hr (fun t9 ht9 hW9 => ⟨⟨(), rfl, trivial, ⟨pq_mk (wc := [(h0, .inr (1, [.int 4, .int 3, .int 20, .ref h1])), (h1, .inr (0, [.int 20, .ref o0, .int 5]))]) (tc := []) hP hD hK [0, 1] [] rfl rfl rfl rfl ht9 hW9, by rw [ht9]; exact Nat.le_trans (Nat.add_le_add_left (Nat.le_of_ble_eq_true rfl) _) hG⟩⟩, hS.F ht9⟩) hS.2.2 dJx35411_checkForComodification_da8c8_22

set_option maxHeartbeats 4000000 in
set_option maxRecDepth 100000 in
theorem k474_next (l : Launch) (hl9 : l.stackTraces = false) (dC : Nat → ClassId) (dI : Nat → Nat → Nat) (z : XZ) (h0 h1 h2 : Nat) (sz : Nat) (kc0 : ClassId) : Met l yJx35411_next_0502b (.code yJx35411_next_0502b cJx35411_next_0502b 3 (some (.object "java/lang/Object")) :: wsL_law) ({ frames := 1, cells := 0, slots := 0, locals := 20 }) (va_Pc [.ref h0] (PC (dC, dI) [(h0, .inr (1, [.int 4, .int 3, .int 20, .ref h1])), (h1, .inr (0, [.int 20, .ref h2, .int 5])), (h2, .inl (kc0, 10, .inr (.inr (.inr (.inr (va_up (va_up (va_up (va_up (va_up (fun _ => none) 0 (some (z.2.2.1 128))) 1 (some (z.2.2.1 129))) 2 (some (z.2.2.1 130))) 3 (some (z.2.2.1 131))) 4 (some (z.2.2.1 132))))))))] [(kc0, .object "java/lang/Object")] sz z)) (va_Qr (fun (_ : Unit) => True) (fun (_ : Unit) (ra : Nat) (t : State) => ra = (z.2.2.1 132) ∧ PG (dC, dI) [(h0, .inr (1, [.int 5, .int 4, .int 20, .ref h1])), (h1, .inr (0, [.int 20, .ref h2, .int 5])), (h2, .inl (kc0, 10, .inr (.inr (.inr (.inr (va_up (va_up (va_up (va_up (va_up (fun _ => none) 0 (some (z.2.2.1 128))) 1 (some (z.2.2.1 129))) 2 (some (z.2.2.1 130))) 3 (some (z.2.2.1 131))) 4 (some (z.2.2.1 132))))))))] [(kc0, .object "java/lang/Object")] (va_A [(h0, .inr (1, [.int 4, .int 3, .int 20, .ref h1])), (h1, .inr (0, [.int 20, .ref h2, .int 5])), (h2, .inl (kc0, 10, .inr (.inr (.inr (.inr (va_up (va_up (va_up (va_up (va_up (fun _ => none) 0 (some (z.2.2.1 128))) 1 (some (z.2.2.1 129))) 2 (some (z.2.2.1 130))) 3 (some (z.2.2.1 131))) 4 (some (z.2.2.1 132))))))))] sz) sz 0 t) (va_A [(h0, .inr (1, [.int 4, .int 3, .int 20, .ref h1])), (h1, .inr (0, [.int 20, .ref h2, .int 5])), (h2, .inl (kc0, 10, .inr (.inr (.inr (.inr (va_up (va_up (va_up (va_up (va_up (fun _ => none) 0 (some (z.2.2.1 128))) 1 (some (z.2.2.1 129))) 2 (some (z.2.2.1 130))) 3 (some (z.2.2.1 131))) 4 (some (z.2.2.1 132))))))))] sz)) 0 0 (va_A [(h0, .inr (1, [.int 4, .int 3, .int 20, .ref h1])), (h1, .inr (0, [.int 20, .ref h2, .int 5])), (h2, .inl (kc0, 10, .inr (.inr (.inr (.inr (va_up (va_up (va_up (va_up (va_up (fun _ => none) 0 (some (z.2.2.1 128))) 1 (some (z.2.2.1 129))) 2 (some (z.2.2.1 130))) 3 (some (z.2.2.1 131))) 4 (some (z.2.2.1 132))))))))] sz) := by
  refine Met.ofW (cc := cJx35411_next_0502b) (maxL := 3) (ret := (some (.object "java/lang/Object"))) (by decide) rfl ?_
  intro p e s m args below meth c s₁ B hml hv
  obtain ⟨rfl, hsz, hP, hK, hD0, hX, hT⟩ := hv
  have hx := B.exec
  have hb := B.bytes
  have hr := B.returns
  have hts0 := atoms_spec (ws := .code yJx35411_next_0502b cJx35411_next_0502b 3 (some (.object "java/lang/Object")) :: wsL_law) B.pre
  have hts := xTail hts0
  have hown : s.vm.findClass RJx35411 = some m.cls := findClass_of_methodNamed B.named
  have hlocks := B.notSynchronized
  subst hsz
  have hD := hD0.self (sz := s.heap.size)
  generalize hAe : va_A [(h0, .inr (1, [.int 4, .int 3, .int 20, .ref h1])), (h1, .inr (0, [.int 20, .ref h2, .int 5])), (h2, .inl (kc0, 10, .inr (.inr (.inr (.inr (va_up (va_up (va_up (va_up (va_up (fun _ => none) 0 (some (z.2.2.1 128))) 1 (some (z.2.2.1 129))) 2 (some (z.2.2.1 130))) 3 (some (z.2.2.1 131))) 4 (some (z.2.2.1 132))))))))] s.heap.size = A at hD hX ⊢
  have hA : ∀ q : Nat, s.heap.size ≤ q → A q := fun q h => by rw [← hAe]; exact Or.inr h
  have hS : va_S A s.heap s.heap [] := va_S.rf
  have hG : s.heap.size + 0 ≤ s.heap.size := Nat.le_refl _
  have hl := lv_entry ([.ref h0]) (n := 3) (Nat.le_of_ble_eq_true rfl)
  rw [lg_entry_eq]
  generalize (lg_sl ([.ref h0]) ++ List.replicate (3 - (lg_sl ([.ref h0])).length) Slot.unset).toArray = ls at hl ⊢
  have hl : lv_has ls 3 [(0, .ref h0)] := hl
  refine lv_aload_n hx hb dJx35411_next_0502b_0 rfl (lv_at hl 0 rfl) ?_
  have hF1 := va_free (wc := [(h0, .inr (1, [.int 4, .int 3, .int 20, .ref h1])), (h1, .inr (0, [.int 20, .ref h2, .int 5]))]) hD hS hA [0, 1] rfl
  refine va_callv (va_runV (As := []) (rest := []) ⟨hx, hb, hml, hown, hts⟩ (k473_checkForComodification l hl9 dC dI z h0 h1 h2 s.heap.size) (cwV 0 hts (gV q_303 q_304 q_305 q_246 q_302) rfl rfl rfl (by decide +kernel) ⟨Nat.le_of_ble_eq_true rfl, Nat.le_of_ble_eq_true rfl⟩) ⟨pc_blind, va_recv hK hP (ci := 1) (q0 := 0) rfl rfl, fun U hU hW => ⟨rfl, pc_mk hP hD hK hS hX hT [0, 1] [] rfl rfl rfl rfl hF1 hU hW⟩⟩ rfl rfl hl.1 rfl (lv_room (Nat.le_of_ble_eq_true rfl)) dJx35411_next_0502b_1 ⟨(Nat.le_of_ble_eq_true rfl), (Nat.le_of_ble_eq_true rfl)⟩) hS (fun q9 _ h9 => hF1 q9 h9) hF1 (fun u3 t3 H3 L3 ht3 hvm3 hw3 hB3 hz3 hk3 hS => ?_)
  obtain ⟨hP, hD, hK⟩ := pq_join (wr := [(h2, .inl (kc0, 10, .inr (.inr (.inr (.inr (va_up (va_up (va_up (va_up (va_up (fun _ => none) 0 (some (z.2.2.1 128))) 1 (some (z.2.2.1 129))) 2 (some (z.2.2.1 130))) 3 (some (z.2.2.1 131))) 4 (some (z.2.2.1 132))))))))]) (tr := [(kc0, .object "java/lang/Object")]) (wz := [(h2, .inl (kc0, 10, .inr (.inr (.inr (.inr (va_up (va_up (va_up (va_up (va_up (fun _ => none) 0 (some (z.2.2.1 128))) 1 (some (z.2.2.1 129))) 2 (some (z.2.2.1 130))) 3 (some (z.2.2.1 131))) 4 (some (z.2.2.1 132)))))))), (h0, .inr (1, [.int 4, .int 3, .int 20, .ref h1])), (h1, .inr (0, [.int 20, .ref h2, .int 5]))]) (tz := [(kc0, .object "java/lang/Object")]) hP hD hK [0, 1] [2] [0] rfl rfl (by decide) (by decide) rfl hk3 hF1 hB3.1 ht3 hvm3 rfl rfl
  have hG : s.heap.size + 0 ≤ H3.size := Nat.le_trans hG hz3
  refine lv_aload_n hx hb dJx35411_next_0502b_4 rfl (lv_at hl 0 rfl) ?_
  refine va_get (D := (dC, dI)) (ci := 1) (v := .int 4) (C := RJx35411) (T := TJx35411) (N := 4) hx hb hts in_Jx35411 hown hK hP 1 rfl rfl 0 (by decide) (hts _ q_259) (fun _ h9 => h9) rfl dJx35411_next_0502b_5 ?_
  refine lv_istore_n (lv' := [(1, .int 4), (0, .ref h0)]) hx hb dJx35411_next_0502b_8 rfl hl (by decide) rfl (fun ls hl => ?_)
  refine lv_iload_n hx hb dJx35411_next_0502b_9 rfl (lv_at hl 0 rfl) ?_
  refine lv_aload_n hx hb dJx35411_next_0502b_10 rfl (lv_at hl 1 rfl) ?_
  refine va_get (D := (dC, dI)) (ci := 1) (v := .ref h1) (C := RJx35411) (T := TJx35411) (N := 4) hx hb hts in_Jx35411 hown hK hP 1 rfl rfl 3 (by decide) (hts _ q_247) (fun _ h9 => h9) rfl dJx35411_next_0502b_11 ?_
  refine va_getN (D := (dC, dI)) (ci := 0) (v := .int 5) (C := RJx4a65c) (T := TJx4a65c) (N := 3) hx hb hts in_Jx4a65c hown hK hP 2 rfl rfl 2 (by decide) (va_Nw.use rfl hT.2.2.2.2.1) (fun _ h9 => h9) rfl dJx35411_next_0502b_14 ?_
  refine lv_icmp_lt (tgt := 28) hx hb dJx35411_next_0502b_17 (by decide) (fun _ => ?_) (fun cz => absurd (by decide) cz)
  refine lv_aload_n hx hb dJx35411_next_0502b_28 rfl (lv_at hl 1 rfl) ?_
  refine va_get (D := (dC, dI)) (ci := 1) (v := .ref h1) (C := RJx35411) (T := TJx35411) (N := 4) hx hb hts in_Jx35411 hown hK hP 1 rfl rfl 3 (by decide) (hts _ q_247) (fun _ h9 => h9) rfl dJx35411_next_0502b_29 ?_
  refine va_get (D := (dC, dI)) (ci := 0) (v := .ref h2) (C := RJx4a65c) (T := TJx4a65c) (N := 3) hx hb hts in_Jx4a65c hown hK hP 2 rfl rfl 1 (by decide) (hts _ q_306) (fun _ h9 => h9) rfl dJx35411_next_0502b_32 ?_
  refine lv_astore_n (lv' := [(2, .ref h2), (1, .int 4), (0, .ref h0)]) hx hb dJx35411_next_0502b_35 rfl hl (by decide) rfl (fun ls hl => ?_)
  refine lv_iload_n hx hb dJx35411_next_0502b_36 rfl (lv_at hl 1 rfl) ?_
  refine lv_aload_n hx hb dJx35411_next_0502b_37 rfl (lv_at hl 0 rfl) ?_
  refine va_alen hx hb hK hP 0 0 rfl rfl (v := 10) rfl dJx35411_next_0502b_38 ?_
  refine lv_icmp_lt (tgt := 50) hx hb dJx35411_next_0502b_39 (by decide) (fun _ => ?_) (fun cz => absurd (by decide) cz)
  refine lv_aload_n hx hb dJx35411_next_0502b_50 rfl (lv_at hl 2 rfl) ?_
  refine lv_iload_n hx hb dJx35411_next_0502b_51 rfl (lv_at hl 1 rfl) ?_
  refine lv_iconst (v := 1) hx hb dJx35411_next_0502b_52 (by decide) ?_
  refine lv_iadd hx hb dJx35411_next_0502b_53 ?_
  refine lv_topi (fun y5 ey5 => ?_)
  obtain rfl : y5 = 5 := ey5.trans (by decide)
  refine va_put (D := (dC, dI)) (ci := 1) (v := .int 5) (ty := .int) (C := RJx35411) (T := TJx35411) (N := 4) hx hb hts in_Jx35411 tyJx35411 tyJx35411_ok nmJx35411 hown hK hP hD (va_Sre hS) 1 rfl rfl 0 (by decide) (hts _ q_259) (fun _ h9 => h9) rfl (by decide +kernel) rfl rfl (Nat.le_of_ble_eq_true rfl) dJx35411_next_0502b_54 (fun H6 _ hP hD hS' => ?_)
  have hG : s.heap.size + 0 ≤ H6.size := Nat.le_trans hG hS'.1
  have hS := va_Str hS hS'
  have hP : va_P (dC, dI) xCl [(h2, .inl (kc0, 10, .inr (.inr (.inr (.inr (va_up (va_up (va_up (va_up (va_up (fun _ => none) 0 (some (z.2.2.1 128))) 1 (some (z.2.2.1 129))) 2 (some (z.2.2.1 130))) 3 (some (z.2.2.1 131))) 4 (some (z.2.2.1 132)))))))), (h0, .inr (1, [.int 5, .int 3, .int 20, .ref h1])), (h1, .inr (0, [.int 20, .ref h2, .int 5]))] H6 := hP
  have hD : va_D A [(h2, .inl (kc0, 10, .inr (.inr (.inr (.inr (va_up (va_up (va_up (va_up (va_up (fun _ => none) 0 (some (z.2.2.1 128))) 1 (some (z.2.2.1 129))) 2 (some (z.2.2.1 130))) 3 (some (z.2.2.1 131))) 4 (some (z.2.2.1 132)))))))), (h0, .inr (1, [.int 5, .int 3, .int 20, .ref h1])), (h1, .inr (0, [.int 20, .ref h2, .int 5]))] := hD
  refine lv_aload_n hx hb dJx35411_next_0502b_57 rfl (lv_at hl 0 rfl) ?_
  refine lv_aload_n hx hb dJx35411_next_0502b_58 rfl (lv_at hl 2 rfl) ?_
  refine lv_iload_n hx hb dJx35411_next_0502b_59 rfl (lv_at hl 1 rfl) ?_
  refine lv_dup_x1 hx hb dJx35411_next_0502b_60 rfl rfl ?_
  refine va_put (D := (dC, dI)) (ci := 1) (v := .int 4) (ty := .int) (C := RJx35411) (T := TJx35411) (N := 4) hx hb hts in_Jx35411 tyJx35411 tyJx35411_ok nmJx35411 hown hK hP hD (va_Sre hS) 1 rfl rfl 1 (by decide) (hts _ q_249) (fun _ h9 => h9) rfl (by decide +kernel) rfl rfl (Nat.le_of_ble_eq_true rfl) dJx35411_next_0502b_61 (fun H7 _ hP hD hS' => ?_)
  have hG : s.heap.size + 0 ≤ H7.size := Nat.le_trans hG hS'.1
  have hS := va_Str hS hS'
  have hP : va_P (dC, dI) xCl [(h2, .inl (kc0, 10, .inr (.inr (.inr (.inr (va_up (va_up (va_up (va_up (va_up (fun _ => none) 0 (some (z.2.2.1 128))) 1 (some (z.2.2.1 129))) 2 (some (z.2.2.1 130))) 3 (some (z.2.2.1 131))) 4 (some (z.2.2.1 132)))))))), (h0, .inr (1, [.int 5, .int 4, .int 20, .ref h1])), (h1, .inr (0, [.int 20, .ref h2, .int 5]))] H7 := hP
  have hD : va_D A [(h2, .inl (kc0, 10, .inr (.inr (.inr (.inr (va_up (va_up (va_up (va_up (va_up (fun _ => none) 0 (some (z.2.2.1 128))) 1 (some (z.2.2.1 129))) 2 (some (z.2.2.1 130))) 3 (some (z.2.2.1 131))) 4 (some (z.2.2.1 132)))))))), (h0, .inr (1, [.int 5, .int 4, .int 20, .ref h1])), (h1, .inr (0, [.int 20, .ref h2, .int 5]))] := hD
  refine va_aldq hx hb hK hP 0 0 rfl rfl (i := 4) (by unfold vp_in; decide) dJx35411_next_0502b_64 ?_
  refine W.eq (g2 := F0 m 65 ls [.ref (z.2.2.1 132)]) rfl ?_
  exact W.aret (v := .ref (z.2.2.1 132)) hx hb hr (by first | exact Or.inl ⟨_, rfl⟩ | exact Or.inr ⟨_, rfl⟩) (Or.inr ⟨_, rfl⟩) (fun t9 ht9 hW9 => ⟨⟨(), (z.2.2.1 132), rfl, trivial, ⟨rfl, ⟨pq_mk (wc := [(h0, .inr (1, [.int 5, .int 4, .int 20, .ref h1])), (h1, .inr (0, [.int 20, .ref h2, .int 5])), (h2, .inl (kc0, 10, .inr (.inr (.inr (.inr (va_up (va_up (va_up (va_up (va_up (fun _ => none) 0 (some (z.2.2.1 128))) 1 (some (z.2.2.1 129))) 2 (some (z.2.2.1 130))) 3 (some (z.2.2.1 131))) 4 (some (z.2.2.1 132))))))))]) (tc := [(kc0, .object "java/lang/Object")]) hP hD hK [1, 2, 0] [0] rfl rfl rfl rfl ht9 hW9, by rw [ht9]; exact Nat.le_trans (Nat.add_le_add_left (Nat.le_of_ble_eq_true rfl) _) hG⟩⟩⟩, hS.F ht9⟩) hS.2.2 dJx35411_next_0502b_65

set_option maxHeartbeats 4000000 in
set_option maxRecDepth 100000 in
theorem k475_intValue (l : Launch) (hl9 : l.stackTraces = false) (dC : Nat → ClassId) (dI : Nat → Nat → Nat) (z : XZ) (sz : Nat) : Met l yJ6_intValue_8abf5 (.code yJ6_intValue_8abf5 cJ6_intValue_8abf5 1 (some .int) :: wsL_law) ({ frames := 0, cells := 0, slots := 0, locals := 0 }) (va_Pc [.ref (z.2.2.1 132)] (PC (dC, dI) [] [] sz z)) (va_Qi (fun (r : Int32) (_ : Unit) => r = 4) (fun (_ : Unit) (t : State) => PG (dC, dI) [] [] (va_A [] sz) sz 0 t) (va_A [] sz)) 0 0 (va_A [] sz) := by
  refine Met.ofW (cc := cJ6_intValue_8abf5) (maxL := 1) (ret := (some .int)) (by decide) rfl ?_
  intro p e s m args below meth c s₁ B hml hv
  obtain ⟨rfl, hsz, hP, hK, hD0, hX, hT⟩ := hv
  have hx := B.exec
  have hb := B.bytes
  have hr := B.returns
  have hts0 := atoms_spec (ws := .code yJ6_intValue_8abf5 cJ6_intValue_8abf5 1 (some .int) :: wsL_law) B.pre
  have hts := xTail hts0
  have hown : s.vm.findClass RJ6 = some m.cls := findClass_of_methodNamed B.named
  have hlocks := B.notSynchronized
  subst hsz
  have hD := hD0.self (sz := s.heap.size)
  generalize hAe : va_A [] s.heap.size = A at hD hX ⊢
  have hA : ∀ q : Nat, s.heap.size ≤ q → A q := fun q h => by rw [← hAe]; exact Or.inr h
  have hS : va_S A s.heap s.heap [] := va_S.rf
  have hG : s.heap.size + 0 ≤ s.heap.size := Nat.le_refl _
  have hl := lv_entry ([.ref (z.2.2.1 132)]) (n := 1) (Nat.le_of_ble_eq_true rfl)
  rw [lg_entry_eq]
  generalize (lg_sl ([.ref (z.2.2.1 132)]) ++ List.replicate (1 - (lg_sl ([.ref (z.2.2.1 132)])).length) Slot.unset).toArray = ls at hl ⊢
  have hl : lv_has ls 1 [(0, .ref (z.2.2.1 132))] := hl
  refine lv_aload_n hx hb dJ6_intValue_8abf5_0 rfl (lv_at hl 0 rfl) ?_
  refine va_getX (own := RJ6) (ref := "java/lang/Integer") hx hb hX.2.2.1.1.2 (i := 132) (by decide) hS hown (hts _ q_321) (fun _ h9 => h9) dJ6_intValue_8abf5_1 ?_
  refine W.eq (g2 := F0 m 4 ls [.int 4]) rfl ?_
  exact W.iret (v := 4) hx hb hr (fun t9 ht9 hW9 => ⟨⟨4, (), rfl, rfl, ⟨pq_mk (wc := []) (tc := []) hP hD hK [] [] rfl rfl rfl rfl ht9 hW9, by rw [ht9]; exact Nat.le_trans (Nat.add_le_add_left (Nat.le_of_ble_eq_true rfl) _) hG⟩⟩, hS.F ht9⟩) hS.2.2 dJ6_intValue_8abf5_4

set_option maxHeartbeats 4000000 in
set_option maxRecDepth 100000 in
theorem k476_hasNext (l : Launch) (hl9 : l.stackTraces = false) (dC : Nat → ClassId) (dI : Nat → Nat → Nat) (z : XZ) (h0 h1 : Nat) (o0 : Nat) (sz : Nat) : Met l yJx35411_hasNext_aae02 (.code yJx35411_hasNext_aae02 cJx35411_hasNext_aae02 1 (some .boolean) :: wsL_law) ({ frames := 0, cells := 0, slots := 0, locals := 0 }) (va_Pc [.ref h0] (PC (dC, dI) [(h0, .inr (1, [.int 5, .int 4, .int 20, .ref h1])), (h1, .inr (0, [.int 20, .ref o0, .int 5]))] [] sz z)) (va_Qi (fun (r : Int32) (_ : Unit) => r = 0) (fun (_ : Unit) (t : State) => PG (dC, dI) [(h0, .inr (1, [.int 5, .int 4, .int 20, .ref h1])), (h1, .inr (0, [.int 20, .ref o0, .int 5]))] [] (va_A [(h0, .inr (1, [.int 5, .int 4, .int 20, .ref h1])), (h1, .inr (0, [.int 20, .ref o0, .int 5]))] sz) sz 0 t) (va_A [(h0, .inr (1, [.int 5, .int 4, .int 20, .ref h1])), (h1, .inr (0, [.int 20, .ref o0, .int 5]))] sz)) 0 0 (va_A [(h0, .inr (1, [.int 5, .int 4, .int 20, .ref h1])), (h1, .inr (0, [.int 20, .ref o0, .int 5]))] sz) := by
  refine Met.ofW (cc := cJx35411_hasNext_aae02) (maxL := 1) (ret := (some .boolean)) (by decide) rfl ?_
  intro p e s m args below meth c s₁ B hml hv
  obtain ⟨rfl, hsz, hP, hK, hD0, hX, hT⟩ := hv
  have hx := B.exec
  have hb := B.bytes
  have hr := B.returns
  have hts0 := atoms_spec (ws := .code yJx35411_hasNext_aae02 cJx35411_hasNext_aae02 1 (some .boolean) :: wsL_law) B.pre
  have hts := xTail hts0
  have hown : s.vm.findClass RJx35411 = some m.cls := findClass_of_methodNamed B.named
  have hlocks := B.notSynchronized
  subst hsz
  have hD := hD0.self (sz := s.heap.size)
  generalize hAe : va_A [(h0, .inr (1, [.int 5, .int 4, .int 20, .ref h1])), (h1, .inr (0, [.int 20, .ref o0, .int 5]))] s.heap.size = A at hD hX ⊢
  have hA : ∀ q : Nat, s.heap.size ≤ q → A q := fun q h => by rw [← hAe]; exact Or.inr h
  have hS : va_S A s.heap s.heap [] := va_S.rf
  have hG : s.heap.size + 0 ≤ s.heap.size := Nat.le_refl _
  have hl := lv_entry ([.ref h0]) (n := 1) (Nat.le_of_ble_eq_true rfl)
  rw [lg_entry_eq]
  generalize (lg_sl ([.ref h0]) ++ List.replicate (1 - (lg_sl ([.ref h0])).length) Slot.unset).toArray = ls at hl ⊢
  have hl : lv_has ls 1 [(0, .ref h0)] := hl
  refine lv_aload_n hx hb dJx35411_hasNext_aae02_0 rfl (lv_at hl 0 rfl) ?_
  refine va_get (D := (dC, dI)) (ci := 1) (v := .int 5) (C := RJx35411) (T := TJx35411) (N := 4) hx hb hts in_Jx35411 hown hK hP 0 rfl rfl 0 (by decide) (hts _ q_259) (fun _ h9 => h9) rfl dJx35411_hasNext_aae02_1 ?_
  refine lv_aload_n hx hb dJx35411_hasNext_aae02_4 rfl (lv_at hl 0 rfl) ?_
  refine va_get (D := (dC, dI)) (ci := 1) (v := .ref h1) (C := RJx35411) (T := TJx35411) (N := 4) hx hb hts in_Jx35411 hown hK hP 0 rfl rfl 3 (by decide) (hts _ q_247) (fun _ h9 => h9) rfl dJx35411_hasNext_aae02_5 ?_
  refine va_getN (D := (dC, dI)) (ci := 0) (v := .int 5) (C := RJx4a65c) (T := TJx4a65c) (N := 3) hx hb hts in_Jx4a65c hown hK hP 1 rfl rfl 2 (by decide) (va_Nw.use rfl hT.2.2.2.2.1) (fun _ h9 => h9) rfl dJx35411_hasNext_aae02_8 ?_
  refine lv_icmp_eq (tgt := 18) hx hb dJx35411_hasNext_aae02_11 (by decide) (fun _ => ?_) (fun cz => absurd (by decide) cz)
  refine lv_iconst (v := 0) hx hb dJx35411_hasNext_aae02_18 (by decide) ?_
  exact W.zret (v := 0) (ty := .boolean) hx hb hr rfl (fun t9 ht9 hW9 => ⟨⟨0, (), rfl, rfl, ⟨pq_mk (wc := [(h0, .inr (1, [.int 5, .int 4, .int 20, .ref h1])), (h1, .inr (0, [.int 20, .ref o0, .int 5]))]) (tc := []) hP hD hK [0, 1] [] rfl rfl rfl rfl ht9 hW9, by rw [ht9]; exact Nat.le_trans (Nat.add_le_add_left (Nat.le_of_ble_eq_true rfl) _) hG⟩⟩, hS.F ht9⟩) hS.2.2 dJx35411_hasNext_aae02_19
