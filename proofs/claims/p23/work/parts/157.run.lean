set_option maxHeartbeats 4000000 in
set_option maxRecDepth 100000 in
theorem k989_isShownBySomeTest (l : Launch) (hl9 : l.stackTraces = false) (dC : Nat → ClassId) (dI : Nat → Nat → Nat) (z : XZ) (h0 h1 h2 h3 h4 h5 h6 h7 h8 h9 h10 h11 h12 h13 : Nat) (o0 o1 o2 o3 o4 o5 o6 o7 o8 : Nat) (sz : Nat) (kc0 kc1 kc2 : ClassId) : Met l yX4_isShownBySomeTest (.code yX4_isShownBySomeTest cX4_isShownBySomeTest 4 (some .boolean) :: wsL_law) ({ frames := 6, cells := 0, slots := 0, locals := 137 }) (va_Pc [.ref h0, .ref h1, .int 48] (PC (dC, dI) [(h0, ce417 h2 h3), (h1, ce427 (z.2.1 0) o0 h1), (h2, ce7 o1 h4 o2 h5), (h3, ce416 kc0), (h4, ce331 h6), (h5, ce366 h7), (h6, ce330 kc1 h1 h8 h9 h10 h11 h12 h13), (h7, ce330 kc2 h1 h8 h9 h10 h11 h12 h13), (h8, ce428 (z.2.1 0) o3 h8), (h9, ce429 (z.2.1 0) o4 h9), (h10, ce430 (z.2.1 0) o5 h10), (h11, ce431 (z.2.1 0) o6 h11), (h12, ce432 (z.2.1 0) o7 h12), (h13, ce440 (z.2.1 0) o8 h13)] [(kc0, .int), (kc1, .object "java/lang/Object"), (kc2, .object "java/lang/Object")] sz z)) (va_Qi (fun (r : Int32) (_ : Unit) => r = 0) (fun (_ : Unit) (t : State) => PG (dC, dI) [(h0, ce417 h2 h3), (h1, ce427 (z.2.1 0) o0 h1), (h2, ce7 o1 h4 o2 h5), (h3, ce416 kc0), (h4, ce331 h6), (h5, ce366 h7), (h6, ce330 kc1 h1 h8 h9 h10 h11 h12 h13), (h7, ce330 kc2 h1 h8 h9 h10 h11 h12 h13), (h8, ce428 (z.2.1 0) o3 h8), (h9, ce429 (z.2.1 0) o4 h9), (h10, ce430 (z.2.1 0) o5 h10), (h11, ce431 (z.2.1 0) o6 h11), (h12, ce432 (z.2.1 0) o7 h12), (h13, ce433 (z.2.1 0) o8 h13)] [(kc0, .int), (kc1, .object "java/lang/Object"), (kc2, .object "java/lang/Object")] (va_A [(h0, ce417 h2 h3), (h1, ce427 (z.2.1 0) o0 h1), (h2, ce7 o1 h4 o2 h5), (h3, ce416 kc0), (h4, ce331 h6), (h5, ce366 h7), (h6, ce330 kc1 h1 h8 h9 h10 h11 h12 h13), (h7, ce330 kc2 h1 h8 h9 h10 h11 h12 h13), (h8, ce428 (z.2.1 0) o3 h8), (h9, ce429 (z.2.1 0) o4 h9), (h10, ce430 (z.2.1 0) o5 h10), (h11, ce431 (z.2.1 0) o6 h11), (h12, ce432 (z.2.1 0) o7 h12), (h13, ce440 (z.2.1 0) o8 h13)] sz) sz 0 t) (va_A [(h0, ce417 h2 h3), (h1, ce427 (z.2.1 0) o0 h1), (h2, ce7 o1 h4 o2 h5), (h3, ce416 kc0), (h4, ce331 h6), (h5, ce366 h7), (h6, ce330 kc1 h1 h8 h9 h10 h11 h12 h13), (h7, ce330 kc2 h1 h8 h9 h10 h11 h12 h13), (h8, ce428 (z.2.1 0) o3 h8), (h9, ce429 (z.2.1 0) o4 h9), (h10, ce430 (z.2.1 0) o5 h10), (h11, ce431 (z.2.1 0) o6 h11), (h12, ce432 (z.2.1 0) o7 h12), (h13, ce440 (z.2.1 0) o8 h13)] sz)) 0 0 (va_A [(h0, ce417 h2 h3), (h1, ce427 (z.2.1 0) o0 h1), (h2, ce7 o1 h4 o2 h5), (h3, ce416 kc0), (h4, ce331 h6), (h5, ce366 h7), (h6, ce330 kc1 h1 h8 h9 h10 h11 h12 h13), (h7, ce330 kc2 h1 h8 h9 h10 h11 h12 h13), (h8, ce428 (z.2.1 0) o3 h8), (h9, ce429 (z.2.1 0) o4 h9), (h10, ce430 (z.2.1 0) o5 h10), (h11, ce431 (z.2.1 0) o6 h11), (h12, ce432 (z.2.1 0) o7 h12), (h13, ce440 (z.2.1 0) o8 h13)] sz) := by
  refine Met.ofW (cc := cX4_isShownBySomeTest) (maxL := 4) (ret := (some .boolean)) (by decide) rfl ?_
  intro p e s m args below meth c s₁ B hml hv
  obtain ⟨rfl, hsz, hP, hK, hD0, hX, hT⟩ := hv
  have hx := B.exec
  have hb := B.bytes
  have hr := B.returns
  have hts0 := atoms_spec (ws := .code yX4_isShownBySomeTest cX4_isShownBySomeTest 4 (some .boolean) :: wsL_law) B.pre
  have hts := xTail hts0
  have hown : s.vm.findClass RX4 = some m.cls := xown B.named rfl
  have hlocks := B.notSynchronized
  subst hsz
  have hD := hD0.self (sz := s.heap.size)
  generalize hAe : va_A [(h0, ce417 h2 h3), (h1, ce427 (z.2.1 0) o0 h1), (h2, ce7 o1 h4 o2 h5), (h3, ce416 kc0), (h4, ce331 h6), (h5, ce366 h7), (h6, ce330 kc1 h1 h8 h9 h10 h11 h12 h13), (h7, ce330 kc2 h1 h8 h9 h10 h11 h12 h13), (h8, ce428 (z.2.1 0) o3 h8), (h9, ce429 (z.2.1 0) o4 h9), (h10, ce430 (z.2.1 0) o5 h10), (h11, ce431 (z.2.1 0) o6 h11), (h12, ce432 (z.2.1 0) o7 h12), (h13, ce440 (z.2.1 0) o8 h13)] s.heap.size = A at hD hX ⊢
  have hA : ∀ q : Nat, s.heap.size ≤ q → A q := fun q h => by rw [← hAe]; exact Or.inr h
  have hS : va_S A s.heap s.heap [] := va_S.rf
  have hG : s.heap.size + 0 ≤ s.heap.size := Nat.le_refl _
  have hl := lv_entry ([.ref h0, .ref h1, .int 48]) (n := 4) (Nat.le_of_ble_eq_true rfl)
  rw [lg_entry_eq]
  generalize (lg_sl ([.ref h0, .ref h1, .int 48]) ++ List.replicate (4 - (lg_sl ([.ref h0, .ref h1, .int 48])).length) Slot.unset).toArray = ls at hl ⊢
  have hl : lv_has ls 4 [(0, .ref h0), (1, .ref h1), (2, .int 48)] := hl
  refine lv_iconst (v := 0) hx hb dX4_isShownBySomeTest_0 (by decide) ?_
  refine lv_istore_n (lv' := [(3, .int 0), (0, .ref h0), (1, .ref h1), (2, .int 48)]) hx hb dX4_isShownBySomeTest_1 rfl hl (by decide) rfl (fun ls hl => ?_)
  refine lv_iload_n hx hb dX4_isShownBySomeTest_2 rfl (lv_at hl 0 rfl) ?_
  refine lv_aload_n hx hb dX4_isShownBySomeTest_3 rfl (lv_at hl 1 rfl) ?_
  refine va_get (D := (dC, dI)) (ci := 4) (v := .int 7) (C := RX4) (T := TX4) (N := 3) hx hb hts in_X4 hown hK hP 0 rfl rfl 2 (by decide) (hts _ q_358) (fun _ h9 => h9) rfl dX4_isShownBySomeTest_4 ?_
  refine lv_icmp_ge (tgt := 42) hx hb dX4_isShownBySomeTest_7 (by decide) (fun cz => absurd cz (by decide)) (fun _ => ?_)
  refine lv_iload_n hx hb dX4_isShownBySomeTest_10 rfl (lv_at hl 0 rfl) ?_
  refine lv_aload_n hx hb dX4_isShownBySomeTest_11 rfl (lv_at hl 1 rfl) ?_
  refine va_get (D := (dC, dI)) (ci := 4) (v := .ref h3) (C := RX4) (T := TX4) (N := 3) hx hb hts in_X4 hown hK hP 0 rfl rfl 1 (by decide) (hts _ q_49) (fun _ h9 => h9) rfl dX4_isShownBySomeTest_12 ?_
  refine va_alen hx hb hK hP 3 0 rfl rfl (v := 8) rfl dX4_isShownBySomeTest_15 ?_
  refine lv_icmp_ge (tgt := 42) hx hb dX4_isShownBySomeTest_16 (by decide) (fun cz => absurd cz (by decide)) (fun _ => ?_)
  refine lv_aload_n hx hb dX4_isShownBySomeTest_19 rfl (lv_at hl 1 rfl) ?_
  refine lv_aload_n hx hb dX4_isShownBySomeTest_20 rfl (lv_at hl 2 rfl) ?_
  refine lv_iload_n hx hb dX4_isShownBySomeTest_21 rfl (lv_at hl 3 rfl) ?_
  refine lv_aload_n hx hb dX4_isShownBySomeTest_22 rfl (lv_at hl 1 rfl) ?_
  refine va_get (D := (dC, dI)) (ci := 4) (v := .ref h3) (C := RX4) (T := TX4) (N := 3) hx hb hts in_X4 hown hK hP 0 rfl rfl 1 (by decide) (hts _ q_49) (fun _ h9 => h9) rfl dX4_isShownBySomeTest_23 ?_
  refine lv_iload_n hx hb dX4_isShownBySomeTest_26 rfl (lv_at hl 0 rfl) ?_
  refine va_iald hx hb hK hP 3 0 rfl rfl (i := 0) (by unfold vp_in; decide) dX4_isShownBySomeTest_27 ?_
  refine W.eq (g2 := F0 m 28 ls [.int 0, .int 48, .ref h1, .ref h0]) rfl ?_
  have hM3 := k987_isStuckShown l hl9 dC dI z h0 h1 h2 h4 h5 h6 h7 h8 h9 h10 h11 h12 h13 h3 o0 o1 o2 o3 o4 o5 o6 o7 o8 s.heap.size kc1 kc2
  obtain ⟨hF1, hC4⟩ := pc_M hM3 hP hD hK hS hX hT hA [0, 1, 2, 4, 5, 6, 7, 8, 9, 10, 11, 12, 13] [1, 2] rfl rfl rfl
  refine va_calli (va_runV (As := [.ref h1, .int 48, .int 0]) (rest := []) ⟨hx, hb, hml, hown, hts⟩ hM3 (cwV 3 hts (gV q_392 q_393 q_394 q_46 q_391) rfl rfl rfl hV_X4_isStuckShown ⟨Nat.le_of_ble_eq_true rfl, Nat.le_of_ble_eq_true rfl⟩) ⟨pc_blind, va_recv hK hP (ci := 4) (q := (RX4, TX4, 3)) (q0 := 0) rfl rfl, fun U hU hW => ⟨rfl, hC4 U hU hW⟩⟩ rfl rfl hl.1 rfl (lv_room (Nat.le_of_ble_eq_true rfl)) dX4_isShownBySomeTest_28 ⟨(Nat.le_of_ble_eq_true rfl), (Nat.le_of_ble_eq_true rfl)⟩) hS (fun q9 _ h9 => hF1 q9 h9) hF1 (fun r6 u5 t5 H5 L5 ht5 hvm5 hw5 hB5 hz5 hk5 hS => ?_)
  obtain ⟨hP, hD, hK⟩ := pq_jn (wz := [(h3, ce416 kc0), (h0, ce417 h2 h3), (h1, ce427 (z.2.1 0) o0 h1), (h2, ce7 o1 h4 o2 h5), (h4, ce331 h6), (h5, ce366 h7), (h6, ce330 kc1 h1 h8 h9 h10 h11 h12 h13), (h7, ce330 kc2 h1 h8 h9 h10 h11 h12 h13), (h8, ce428 (z.2.1 0) o3 h8), (h9, ce429 (z.2.1 0) o4 h9), (h10, ce430 (z.2.1 0) o5 h10), (h11, ce431 (z.2.1 0) o6 h11), (h12, ce432 (z.2.1 0) o7 h12), (h13, ce433 (z.2.1 0) o8 h13)]) (tz := [(kc0, .int), (kc1, .object "java/lang/Object"), (kc2, .object "java/lang/Object")]) hP hD hK [0, 1, 2, 4, 5, 6, 7, 8, 9, 10, 11, 12, 13] [0] rfl hk5 hF1 hB5.1 ht5 hvm5 rfl rfl
  have hG : s.heap.size + 0 ≤ H5.size := Nat.le_trans hG hz5
  refine W.eq (g2 := F0 m 31 ls [.int 0]) (by rw [hw5]) ?_
  refine lv_if_eq (tgt := 36) hx hb dX4_isShownBySomeTest_31 (by decide) (fun _ => ?_) (fun cz => absurd (by decide) cz)
  refine lv_iinc (v := 1) (lv' := [(3, .int 1), (0, .ref h0), (1, .ref h1), (2, .int 48)]) hx hb dX4_isShownBySomeTest_36 hl (k := 0) rfl (by decide) (by decide) rfl (fun ls hl => ?_)
  refine lv_goto (tgt := 2) hx hb dX4_isShownBySomeTest_39 (by decide) ?_
  refine lv_iload_n hx hb dX4_isShownBySomeTest_2 rfl (lv_at hl 0 rfl) ?_
  refine lv_aload_n hx hb dX4_isShownBySomeTest_3 rfl (lv_at hl 1 rfl) ?_
  refine va_get (D := (dC, dI)) (ci := 4) (v := .int 7) (C := RX4) (T := TX4) (N := 3) hx hb hts in_X4 hown hK hP 1 rfl rfl 2 (by decide) (hts _ q_358) (fun _ h9 => h9) rfl dX4_isShownBySomeTest_4 ?_
  refine lv_icmp_ge (tgt := 42) hx hb dX4_isShownBySomeTest_7 (by decide) (fun cz => absurd cz (by decide)) (fun _ => ?_)
  refine lv_iload_n hx hb dX4_isShownBySomeTest_10 rfl (lv_at hl 0 rfl) ?_
  refine lv_aload_n hx hb dX4_isShownBySomeTest_11 rfl (lv_at hl 1 rfl) ?_
  refine va_get (D := (dC, dI)) (ci := 4) (v := .ref h3) (C := RX4) (T := TX4) (N := 3) hx hb hts in_X4 hown hK hP 1 rfl rfl 1 (by decide) (hts _ q_49) (fun _ h9 => h9) rfl dX4_isShownBySomeTest_12 ?_
  refine va_alen hx hb hK hP 0 0 rfl rfl (v := 8) rfl dX4_isShownBySomeTest_15 ?_
  refine lv_icmp_ge (tgt := 42) hx hb dX4_isShownBySomeTest_16 (by decide) (fun cz => absurd cz (by decide)) (fun _ => ?_)
  refine lv_aload_n hx hb dX4_isShownBySomeTest_19 rfl (lv_at hl 1 rfl) ?_
  refine lv_aload_n hx hb dX4_isShownBySomeTest_20 rfl (lv_at hl 2 rfl) ?_
  refine lv_iload_n hx hb dX4_isShownBySomeTest_21 rfl (lv_at hl 3 rfl) ?_
  refine lv_aload_n hx hb dX4_isShownBySomeTest_22 rfl (lv_at hl 1 rfl) ?_
  refine va_get (D := (dC, dI)) (ci := 4) (v := .ref h3) (C := RX4) (T := TX4) (N := 3) hx hb hts in_X4 hown hK hP 1 rfl rfl 1 (by decide) (hts _ q_49) (fun _ h9 => h9) rfl dX4_isShownBySomeTest_23 ?_
  refine lv_iload_n hx hb dX4_isShownBySomeTest_26 rfl (lv_at hl 0 rfl) ?_
  refine va_iald hx hb hK hP 0 0 rfl rfl (i := 1) (by unfold vp_in; decide) dX4_isShownBySomeTest_27 ?_
  refine W.eq (g2 := F0 m 28 ls [.int 0, .int 48, .ref h1, .ref h0]) rfl ?_
  have hM9 := k988_isStuckShown l hl9 dC dI z h0 h1 h2 h4 h5 h6 h7 h8 h9 h10 h11 h12 h13 h3 o0 o1 o2 o3 o4 o5 o6 o7 o8 H5.size kc1 kc2
  obtain ⟨hF7, hC10⟩ := pc_M hM9 hP hD hK hS hX hT hA [1, 2, 3, 4, 5, 6, 7, 8, 9, 10, 11, 12, 13] [1, 2] rfl rfl rfl
  refine va_calli (va_runV (As := [.ref h1, .int 48, .int 0]) (rest := []) ⟨hx, hb, hml, hown, hts⟩ hM9 (cwV 3 hts (gV q_392 q_393 q_394 q_46 q_391) rfl rfl rfl hV_X4_isStuckShown ⟨Nat.le_of_ble_eq_true rfl, Nat.le_of_ble_eq_true rfl⟩) ⟨pc_blind, va_recv hK hP (ci := 4) (q := (RX4, TX4, 3)) (q0 := 1) rfl rfl, fun U hU hW => ⟨rfl, hC10 U hU hW⟩⟩ rfl rfl hl.1 rfl (lv_room (Nat.le_of_ble_eq_true rfl)) dX4_isShownBySomeTest_28 ⟨(Nat.le_of_ble_eq_true rfl), (Nat.le_of_ble_eq_true rfl)⟩) hS (fun q9 _ h9 => hF7 q9 h9) hF7 (fun r12 u11 t11 H11 L11 ht11 hvm11 hw11 hB11 hz11 hk11 hS => ?_)
  have hP := pq_keep hP hD [1, 2, 3, 4, 5, 6, 7, 8, 9, 10, 11, 12, 13] rfl hk11 hB11.1 ht11
  have hG : s.heap.size + 0 ≤ H11.size := Nat.le_trans hG hz11
  refine W.eq (g2 := F0 m 31 ls [.int 0]) (by rw [hw11]) ?_
  refine lv_if_eq (tgt := 36) hx hb dX4_isShownBySomeTest_31 (by decide) (fun _ => ?_) (fun cz => absurd (by decide) cz)
  refine lv_iinc (v := 2) (lv' := [(3, .int 2), (0, .ref h0), (1, .ref h1), (2, .int 48)]) hx hb dX4_isShownBySomeTest_36 hl (k := 0) rfl (by decide) (by decide) rfl (fun ls hl => ?_)
  refine lv_goto (tgt := 2) hx hb dX4_isShownBySomeTest_39 (by decide) ?_
  refine lv_iload_n hx hb dX4_isShownBySomeTest_2 rfl (lv_at hl 0 rfl) ?_
  refine lv_aload_n hx hb dX4_isShownBySomeTest_3 rfl (lv_at hl 1 rfl) ?_
  refine va_get (D := (dC, dI)) (ci := 4) (v := .int 7) (C := RX4) (T := TX4) (N := 3) hx hb hts in_X4 hown hK hP 1 rfl rfl 2 (by decide) (hts _ q_358) (fun _ h9 => h9) rfl dX4_isShownBySomeTest_4 ?_
  refine lv_icmp_ge (tgt := 42) hx hb dX4_isShownBySomeTest_7 (by decide) (fun cz => absurd cz (by decide)) (fun _ => ?_)
  refine lv_iload_n hx hb dX4_isShownBySomeTest_10 rfl (lv_at hl 0 rfl) ?_
  refine lv_aload_n hx hb dX4_isShownBySomeTest_11 rfl (lv_at hl 1 rfl) ?_
  refine va_get (D := (dC, dI)) (ci := 4) (v := .ref h3) (C := RX4) (T := TX4) (N := 3) hx hb hts in_X4 hown hK hP 1 rfl rfl 1 (by decide) (hts _ q_49) (fun _ h9 => h9) rfl dX4_isShownBySomeTest_12 ?_
  refine va_alen hx hb hK hP 0 0 rfl rfl (v := 8) rfl dX4_isShownBySomeTest_15 ?_
  refine lv_icmp_ge (tgt := 42) hx hb dX4_isShownBySomeTest_16 (by decide) (fun cz => absurd cz (by decide)) (fun _ => ?_)
  refine lv_aload_n hx hb dX4_isShownBySomeTest_19 rfl (lv_at hl 1 rfl) ?_
  refine lv_aload_n hx hb dX4_isShownBySomeTest_20 rfl (lv_at hl 2 rfl) ?_
  refine lv_iload_n hx hb dX4_isShownBySomeTest_21 rfl (lv_at hl 3 rfl) ?_
  refine lv_aload_n hx hb dX4_isShownBySomeTest_22 rfl (lv_at hl 1 rfl) ?_
  refine va_get (D := (dC, dI)) (ci := 4) (v := .ref h3) (C := RX4) (T := TX4) (N := 3) hx hb hts in_X4 hown hK hP 1 rfl rfl 1 (by decide) (hts _ q_49) (fun _ h9 => h9) rfl dX4_isShownBySomeTest_23 ?_
  refine lv_iload_n hx hb dX4_isShownBySomeTest_26 rfl (lv_at hl 0 rfl) ?_
  refine va_iald hx hb hK hP 0 0 rfl rfl (i := 2) (by unfold vp_in; decide) dX4_isShownBySomeTest_27 ?_
  refine W.eq (g2 := F0 m 28 ls [.int 0, .int 48, .ref h1, .ref h0]) rfl ?_
  have hM15 := k988_isStuckShown l hl9 dC dI z h0 h1 h2 h4 h5 h6 h7 h8 h9 h10 h11 h12 h13 h3 o0 o1 o2 o3 o4 o5 o6 o7 o8 H11.size kc1 kc2
  obtain ⟨hF13, hC16⟩ := pc_M hM15 hP hD hK hS hX hT hA [1, 2, 3, 4, 5, 6, 7, 8, 9, 10, 11, 12, 13] [1, 2] rfl rfl rfl
  refine va_calli (va_runV (As := [.ref h1, .int 48, .int 0]) (rest := []) ⟨hx, hb, hml, hown, hts⟩ hM15 (cwV 3 hts (gV q_392 q_393 q_394 q_46 q_391) rfl rfl rfl hV_X4_isStuckShown ⟨Nat.le_of_ble_eq_true rfl, Nat.le_of_ble_eq_true rfl⟩) ⟨pc_blind, va_recv hK hP (ci := 4) (q := (RX4, TX4, 3)) (q0 := 1) rfl rfl, fun U hU hW => ⟨rfl, hC16 U hU hW⟩⟩ rfl rfl hl.1 rfl (lv_room (Nat.le_of_ble_eq_true rfl)) dX4_isShownBySomeTest_28 ⟨(Nat.le_of_ble_eq_true rfl), (Nat.le_of_ble_eq_true rfl)⟩) hS (fun q9 _ h9 => hF13 q9 h9) hF13 (fun r18 u17 t17 H17 L17 ht17 hvm17 hw17 hB17 hz17 hk17 hS => ?_)
  have hP := pq_keep hP hD [1, 2, 3, 4, 5, 6, 7, 8, 9, 10, 11, 12, 13] rfl hk17 hB17.1 ht17
  have hG : s.heap.size + 0 ≤ H17.size := Nat.le_trans hG hz17
  refine W.eq (g2 := F0 m 31 ls [.int 0]) (by rw [hw17]) ?_
  refine lv_if_eq (tgt := 36) hx hb dX4_isShownBySomeTest_31 (by decide) (fun _ => ?_) (fun cz => absurd (by decide) cz)
  refine lv_iinc (v := 3) (lv' := [(3, .int 3), (0, .ref h0), (1, .ref h1), (2, .int 48)]) hx hb dX4_isShownBySomeTest_36 hl (k := 0) rfl (by decide) (by decide) rfl (fun ls hl => ?_)
  refine lv_goto (tgt := 2) hx hb dX4_isShownBySomeTest_39 (by decide) ?_
  refine lv_iload_n hx hb dX4_isShownBySomeTest_2 rfl (lv_at hl 0 rfl) ?_
  refine lv_aload_n hx hb dX4_isShownBySomeTest_3 rfl (lv_at hl 1 rfl) ?_
  refine va_get (D := (dC, dI)) (ci := 4) (v := .int 7) (C := RX4) (T := TX4) (N := 3) hx hb hts in_X4 hown hK hP 1 rfl rfl 2 (by decide) (hts _ q_358) (fun _ h9 => h9) rfl dX4_isShownBySomeTest_4 ?_
  refine lv_icmp_ge (tgt := 42) hx hb dX4_isShownBySomeTest_7 (by decide) (fun cz => absurd cz (by decide)) (fun _ => ?_)
  refine lv_iload_n hx hb dX4_isShownBySomeTest_10 rfl (lv_at hl 0 rfl) ?_
  refine lv_aload_n hx hb dX4_isShownBySomeTest_11 rfl (lv_at hl 1 rfl) ?_
  refine va_get (D := (dC, dI)) (ci := 4) (v := .ref h3) (C := RX4) (T := TX4) (N := 3) hx hb hts in_X4 hown hK hP 1 rfl rfl 1 (by decide) (hts _ q_49) (fun _ h9 => h9) rfl dX4_isShownBySomeTest_12 ?_
  refine va_alen hx hb hK hP 0 0 rfl rfl (v := 8) rfl dX4_isShownBySomeTest_15 ?_
  refine lv_icmp_ge (tgt := 42) hx hb dX4_isShownBySomeTest_16 (by decide) (fun cz => absurd cz (by decide)) (fun _ => ?_)
  refine lv_aload_n hx hb dX4_isShownBySomeTest_19 rfl (lv_at hl 1 rfl) ?_
  refine lv_aload_n hx hb dX4_isShownBySomeTest_20 rfl (lv_at hl 2 rfl) ?_
  refine lv_iload_n hx hb dX4_isShownBySomeTest_21 rfl (lv_at hl 3 rfl) ?_
  refine lv_aload_n hx hb dX4_isShownBySomeTest_22 rfl (lv_at hl 1 rfl) ?_
  refine va_get (D := (dC, dI)) (ci := 4) (v := .ref h3) (C := RX4) (T := TX4) (N := 3) hx hb hts in_X4 hown hK hP 1 rfl rfl 1 (by decide) (hts _ q_49) (fun _ h9 => h9) rfl dX4_isShownBySomeTest_23 ?_
  refine lv_iload_n hx hb dX4_isShownBySomeTest_26 rfl (lv_at hl 0 rfl) ?_
  refine va_iald hx hb hK hP 0 0 rfl rfl (i := 3) (by unfold vp_in; decide) dX4_isShownBySomeTest_27 ?_
  refine W.eq (g2 := F0 m 28 ls [.int 0, .int 48, .ref h1, .ref h0]) rfl ?_
  have hM21 := k988_isStuckShown l hl9 dC dI z h0 h1 h2 h4 h5 h6 h7 h8 h9 h10 h11 h12 h13 h3 o0 o1 o2 o3 o4 o5 o6 o7 o8 H17.size kc1 kc2
  obtain ⟨hF19, hC22⟩ := pc_M hM21 hP hD hK hS hX hT hA [1, 2, 3, 4, 5, 6, 7, 8, 9, 10, 11, 12, 13] [1, 2] rfl rfl rfl
  refine va_calli (va_runV (As := [.ref h1, .int 48, .int 0]) (rest := []) ⟨hx, hb, hml, hown, hts⟩ hM21 (cwV 3 hts (gV q_392 q_393 q_394 q_46 q_391) rfl rfl rfl hV_X4_isStuckShown ⟨Nat.le_of_ble_eq_true rfl, Nat.le_of_ble_eq_true rfl⟩) ⟨pc_blind, va_recv hK hP (ci := 4) (q := (RX4, TX4, 3)) (q0 := 1) rfl rfl, fun U hU hW => ⟨rfl, hC22 U hU hW⟩⟩ rfl rfl hl.1 rfl (lv_room (Nat.le_of_ble_eq_true rfl)) dX4_isShownBySomeTest_28 ⟨(Nat.le_of_ble_eq_true rfl), (Nat.le_of_ble_eq_true rfl)⟩) hS (fun q9 _ h9 => hF19 q9 h9) hF19 (fun r24 u23 t23 H23 L23 ht23 hvm23 hw23 hB23 hz23 hk23 hS => ?_)
  have hP := pq_keep hP hD [1, 2, 3, 4, 5, 6, 7, 8, 9, 10, 11, 12, 13] rfl hk23 hB23.1 ht23
  have hG : s.heap.size + 0 ≤ H23.size := Nat.le_trans hG hz23
  refine W.eq (g2 := F0 m 31 ls [.int 0]) (by rw [hw23]) ?_
  refine lv_if_eq (tgt := 36) hx hb dX4_isShownBySomeTest_31 (by decide) (fun _ => ?_) (fun cz => absurd (by decide) cz)
  refine lv_iinc (v := 4) (lv' := [(3, .int 4), (0, .ref h0), (1, .ref h1), (2, .int 48)]) hx hb dX4_isShownBySomeTest_36 hl (k := 0) rfl (by decide) (by decide) rfl (fun ls hl => ?_)
  refine lv_goto (tgt := 2) hx hb dX4_isShownBySomeTest_39 (by decide) ?_
  refine lv_iload_n hx hb dX4_isShownBySomeTest_2 rfl (lv_at hl 0 rfl) ?_
  refine lv_aload_n hx hb dX4_isShownBySomeTest_3 rfl (lv_at hl 1 rfl) ?_
  refine va_get (D := (dC, dI)) (ci := 4) (v := .int 7) (C := RX4) (T := TX4) (N := 3) hx hb hts in_X4 hown hK hP 1 rfl rfl 2 (by decide) (hts _ q_358) (fun _ h9 => h9) rfl dX4_isShownBySomeTest_4 ?_
  refine lv_icmp_ge (tgt := 42) hx hb dX4_isShownBySomeTest_7 (by decide) (fun cz => absurd cz (by decide)) (fun _ => ?_)
  refine lv_iload_n hx hb dX4_isShownBySomeTest_10 rfl (lv_at hl 0 rfl) ?_
  refine lv_aload_n hx hb dX4_isShownBySomeTest_11 rfl (lv_at hl 1 rfl) ?_
  refine va_get (D := (dC, dI)) (ci := 4) (v := .ref h3) (C := RX4) (T := TX4) (N := 3) hx hb hts in_X4 hown hK hP 1 rfl rfl 1 (by decide) (hts _ q_49) (fun _ h9 => h9) rfl dX4_isShownBySomeTest_12 ?_
  refine va_alen hx hb hK hP 0 0 rfl rfl (v := 8) rfl dX4_isShownBySomeTest_15 ?_
  refine lv_icmp_ge (tgt := 42) hx hb dX4_isShownBySomeTest_16 (by decide) (fun cz => absurd cz (by decide)) (fun _ => ?_)
  refine lv_aload_n hx hb dX4_isShownBySomeTest_19 rfl (lv_at hl 1 rfl) ?_
  refine lv_aload_n hx hb dX4_isShownBySomeTest_20 rfl (lv_at hl 2 rfl) ?_
  refine lv_iload_n hx hb dX4_isShownBySomeTest_21 rfl (lv_at hl 3 rfl) ?_
  refine lv_aload_n hx hb dX4_isShownBySomeTest_22 rfl (lv_at hl 1 rfl) ?_
  refine va_get (D := (dC, dI)) (ci := 4) (v := .ref h3) (C := RX4) (T := TX4) (N := 3) hx hb hts in_X4 hown hK hP 1 rfl rfl 1 (by decide) (hts _ q_49) (fun _ h9 => h9) rfl dX4_isShownBySomeTest_23 ?_
  refine lv_iload_n hx hb dX4_isShownBySomeTest_26 rfl (lv_at hl 0 rfl) ?_
  refine va_iald hx hb hK hP 0 0 rfl rfl (i := 4) (by unfold vp_in; decide) dX4_isShownBySomeTest_27 ?_
  refine W.eq (g2 := F0 m 28 ls [.int 0, .int 48, .ref h1, .ref h0]) rfl ?_
  have hM27 := k988_isStuckShown l hl9 dC dI z h0 h1 h2 h4 h5 h6 h7 h8 h9 h10 h11 h12 h13 h3 o0 o1 o2 o3 o4 o5 o6 o7 o8 H23.size kc1 kc2
  obtain ⟨hF25, hC28⟩ := pc_M hM27 hP hD hK hS hX hT hA [1, 2, 3, 4, 5, 6, 7, 8, 9, 10, 11, 12, 13] [1, 2] rfl rfl rfl
  refine va_calli (va_runV (As := [.ref h1, .int 48, .int 0]) (rest := []) ⟨hx, hb, hml, hown, hts⟩ hM27 (cwV 3 hts (gV q_392 q_393 q_394 q_46 q_391) rfl rfl rfl hV_X4_isStuckShown ⟨Nat.le_of_ble_eq_true rfl, Nat.le_of_ble_eq_true rfl⟩) ⟨pc_blind, va_recv hK hP (ci := 4) (q := (RX4, TX4, 3)) (q0 := 1) rfl rfl, fun U hU hW => ⟨rfl, hC28 U hU hW⟩⟩ rfl rfl hl.1 rfl (lv_room (Nat.le_of_ble_eq_true rfl)) dX4_isShownBySomeTest_28 ⟨(Nat.le_of_ble_eq_true rfl), (Nat.le_of_ble_eq_true rfl)⟩) hS (fun q9 _ h9 => hF25 q9 h9) hF25 (fun r30 u29 t29 H29 L29 ht29 hvm29 hw29 hB29 hz29 hk29 hS => ?_)
  have hP := pq_keep hP hD [1, 2, 3, 4, 5, 6, 7, 8, 9, 10, 11, 12, 13] rfl hk29 hB29.1 ht29
  have hG : s.heap.size + 0 ≤ H29.size := Nat.le_trans hG hz29
  refine W.eq (g2 := F0 m 31 ls [.int 0]) (by rw [hw29]) ?_
  refine lv_if_eq (tgt := 36) hx hb dX4_isShownBySomeTest_31 (by decide) (fun _ => ?_) (fun cz => absurd (by decide) cz)
  refine lv_iinc (v := 5) (lv' := [(3, .int 5), (0, .ref h0), (1, .ref h1), (2, .int 48)]) hx hb dX4_isShownBySomeTest_36 hl (k := 0) rfl (by decide) (by decide) rfl (fun ls hl => ?_)
  refine lv_goto (tgt := 2) hx hb dX4_isShownBySomeTest_39 (by decide) ?_
  refine lv_iload_n hx hb dX4_isShownBySomeTest_2 rfl (lv_at hl 0 rfl) ?_
  refine lv_aload_n hx hb dX4_isShownBySomeTest_3 rfl (lv_at hl 1 rfl) ?_
  refine va_get (D := (dC, dI)) (ci := 4) (v := .int 7) (C := RX4) (T := TX4) (N := 3) hx hb hts in_X4 hown hK hP 1 rfl rfl 2 (by decide) (hts _ q_358) (fun _ h9 => h9) rfl dX4_isShownBySomeTest_4 ?_
  refine lv_icmp_ge (tgt := 42) hx hb dX4_isShownBySomeTest_7 (by decide) (fun cz => absurd cz (by decide)) (fun _ => ?_)
  refine lv_iload_n hx hb dX4_isShownBySomeTest_10 rfl (lv_at hl 0 rfl) ?_
  refine lv_aload_n hx hb dX4_isShownBySomeTest_11 rfl (lv_at hl 1 rfl) ?_
  refine va_get (D := (dC, dI)) (ci := 4) (v := .ref h3) (C := RX4) (T := TX4) (N := 3) hx hb hts in_X4 hown hK hP 1 rfl rfl 1 (by decide) (hts _ q_49) (fun _ h9 => h9) rfl dX4_isShownBySomeTest_12 ?_
  refine va_alen hx hb hK hP 0 0 rfl rfl (v := 8) rfl dX4_isShownBySomeTest_15 ?_
  refine lv_icmp_ge (tgt := 42) hx hb dX4_isShownBySomeTest_16 (by decide) (fun cz => absurd cz (by decide)) (fun _ => ?_)
  refine lv_aload_n hx hb dX4_isShownBySomeTest_19 rfl (lv_at hl 1 rfl) ?_
  refine lv_aload_n hx hb dX4_isShownBySomeTest_20 rfl (lv_at hl 2 rfl) ?_
  refine lv_iload_n hx hb dX4_isShownBySomeTest_21 rfl (lv_at hl 3 rfl) ?_
  refine lv_aload_n hx hb dX4_isShownBySomeTest_22 rfl (lv_at hl 1 rfl) ?_
  refine va_get (D := (dC, dI)) (ci := 4) (v := .ref h3) (C := RX4) (T := TX4) (N := 3) hx hb hts in_X4 hown hK hP 1 rfl rfl 1 (by decide) (hts _ q_49) (fun _ h9 => h9) rfl dX4_isShownBySomeTest_23 ?_
  refine lv_iload_n hx hb dX4_isShownBySomeTest_26 rfl (lv_at hl 0 rfl) ?_
  refine va_iald hx hb hK hP 0 0 rfl rfl (i := 5) (by unfold vp_in; decide) dX4_isShownBySomeTest_27 ?_
  refine W.eq (g2 := F0 m 28 ls [.int 0, .int 48, .ref h1, .ref h0]) rfl ?_
  have hM33 := k988_isStuckShown l hl9 dC dI z h0 h1 h2 h4 h5 h6 h7 h8 h9 h10 h11 h12 h13 h3 o0 o1 o2 o3 o4 o5 o6 o7 o8 H29.size kc1 kc2
  obtain ⟨hF31, hC34⟩ := pc_M hM33 hP hD hK hS hX hT hA [1, 2, 3, 4, 5, 6, 7, 8, 9, 10, 11, 12, 13] [1, 2] rfl rfl rfl
  refine va_calli (va_runV (As := [.ref h1, .int 48, .int 0]) (rest := []) ⟨hx, hb, hml, hown, hts⟩ hM33 (cwV 3 hts (gV q_392 q_393 q_394 q_46 q_391) rfl rfl rfl hV_X4_isStuckShown ⟨Nat.le_of_ble_eq_true rfl, Nat.le_of_ble_eq_true rfl⟩) ⟨pc_blind, va_recv hK hP (ci := 4) (q := (RX4, TX4, 3)) (q0 := 1) rfl rfl, fun U hU hW => ⟨rfl, hC34 U hU hW⟩⟩ rfl rfl hl.1 rfl (lv_room (Nat.le_of_ble_eq_true rfl)) dX4_isShownBySomeTest_28 ⟨(Nat.le_of_ble_eq_true rfl), (Nat.le_of_ble_eq_true rfl)⟩) hS (fun q9 _ h9 => hF31 q9 h9) hF31 (fun r36 u35 t35 H35 L35 ht35 hvm35 hw35 hB35 hz35 hk35 hS => ?_)
  have hP := pq_keep hP hD [1, 2, 3, 4, 5, 6, 7, 8, 9, 10, 11, 12, 13] rfl hk35 hB35.1 ht35
  have hG : s.heap.size + 0 ≤ H35.size := Nat.le_trans hG hz35
  refine W.eq (g2 := F0 m 31 ls [.int 0]) (by rw [hw35]) ?_
  refine lv_if_eq (tgt := 36) hx hb dX4_isShownBySomeTest_31 (by decide) (fun _ => ?_) (fun cz => absurd (by decide) cz)
  refine lv_iinc (v := 6) (lv' := [(3, .int 6), (0, .ref h0), (1, .ref h1), (2, .int 48)]) hx hb dX4_isShownBySomeTest_36 hl (k := 0) rfl (by decide) (by decide) rfl (fun ls hl => ?_)
  refine lv_goto (tgt := 2) hx hb dX4_isShownBySomeTest_39 (by decide) ?_
  refine lv_iload_n hx hb dX4_isShownBySomeTest_2 rfl (lv_at hl 0 rfl) ?_
  refine lv_aload_n hx hb dX4_isShownBySomeTest_3 rfl (lv_at hl 1 rfl) ?_
  refine va_get (D := (dC, dI)) (ci := 4) (v := .int 7) (C := RX4) (T := TX4) (N := 3) hx hb hts in_X4 hown hK hP 1 rfl rfl 2 (by decide) (hts _ q_358) (fun _ h9 => h9) rfl dX4_isShownBySomeTest_4 ?_
  refine lv_icmp_ge (tgt := 42) hx hb dX4_isShownBySomeTest_7 (by decide) (fun cz => absurd cz (by decide)) (fun _ => ?_)
  refine lv_iload_n hx hb dX4_isShownBySomeTest_10 rfl (lv_at hl 0 rfl) ?_
  refine lv_aload_n hx hb dX4_isShownBySomeTest_11 rfl (lv_at hl 1 rfl) ?_
  refine va_get (D := (dC, dI)) (ci := 4) (v := .ref h3) (C := RX4) (T := TX4) (N := 3) hx hb hts in_X4 hown hK hP 1 rfl rfl 1 (by decide) (hts _ q_49) (fun _ h9 => h9) rfl dX4_isShownBySomeTest_12 ?_
  refine va_alen hx hb hK hP 0 0 rfl rfl (v := 8) rfl dX4_isShownBySomeTest_15 ?_
  refine lv_icmp_ge (tgt := 42) hx hb dX4_isShownBySomeTest_16 (by decide) (fun cz => absurd cz (by decide)) (fun _ => ?_)
  refine lv_aload_n hx hb dX4_isShownBySomeTest_19 rfl (lv_at hl 1 rfl) ?_
  refine lv_aload_n hx hb dX4_isShownBySomeTest_20 rfl (lv_at hl 2 rfl) ?_
  refine lv_iload_n hx hb dX4_isShownBySomeTest_21 rfl (lv_at hl 3 rfl) ?_
  refine lv_aload_n hx hb dX4_isShownBySomeTest_22 rfl (lv_at hl 1 rfl) ?_
  refine va_get (D := (dC, dI)) (ci := 4) (v := .ref h3) (C := RX4) (T := TX4) (N := 3) hx hb hts in_X4 hown hK hP 1 rfl rfl 1 (by decide) (hts _ q_49) (fun _ h9 => h9) rfl dX4_isShownBySomeTest_23 ?_
  refine lv_iload_n hx hb dX4_isShownBySomeTest_26 rfl (lv_at hl 0 rfl) ?_
  refine va_iald hx hb hK hP 0 0 rfl rfl (i := 6) (by unfold vp_in; decide) dX4_isShownBySomeTest_27 ?_
  refine W.eq (g2 := F0 m 28 ls [.int 0, .int 48, .ref h1, .ref h0]) rfl ?_
  have hM39 := k988_isStuckShown l hl9 dC dI z h0 h1 h2 h4 h5 h6 h7 h8 h9 h10 h11 h12 h13 h3 o0 o1 o2 o3 o4 o5 o6 o7 o8 H35.size kc1 kc2
  obtain ⟨hF37, hC40⟩ := pc_M hM39 hP hD hK hS hX hT hA [1, 2, 3, 4, 5, 6, 7, 8, 9, 10, 11, 12, 13] [1, 2] rfl rfl rfl
  refine va_calli (va_runV (As := [.ref h1, .int 48, .int 0]) (rest := []) ⟨hx, hb, hml, hown, hts⟩ hM39 (cwV 3 hts (gV q_392 q_393 q_394 q_46 q_391) rfl rfl rfl hV_X4_isStuckShown ⟨Nat.le_of_ble_eq_true rfl, Nat.le_of_ble_eq_true rfl⟩) ⟨pc_blind, va_recv hK hP (ci := 4) (q := (RX4, TX4, 3)) (q0 := 1) rfl rfl, fun U hU hW => ⟨rfl, hC40 U hU hW⟩⟩ rfl rfl hl.1 rfl (lv_room (Nat.le_of_ble_eq_true rfl)) dX4_isShownBySomeTest_28 ⟨(Nat.le_of_ble_eq_true rfl), (Nat.le_of_ble_eq_true rfl)⟩) hS (fun q9 _ h9 => hF37 q9 h9) hF37 (fun r42 u41 t41 H41 L41 ht41 hvm41 hw41 hB41 hz41 hk41 hS => ?_)
  have hP := pq_keep hP hD [1, 2, 3, 4, 5, 6, 7, 8, 9, 10, 11, 12, 13] rfl hk41 hB41.1 ht41
  have hG : s.heap.size + 0 ≤ H41.size := Nat.le_trans hG hz41
  refine W.eq (g2 := F0 m 31 ls [.int 0]) (by rw [hw41]) ?_
  refine lv_if_eq (tgt := 36) hx hb dX4_isShownBySomeTest_31 (by decide) (fun _ => ?_) (fun cz => absurd (by decide) cz)
  refine lv_iinc (v := 7) (lv' := [(3, .int 7), (0, .ref h0), (1, .ref h1), (2, .int 48)]) hx hb dX4_isShownBySomeTest_36 hl (k := 0) rfl (by decide) (by decide) rfl (fun ls hl => ?_)
  refine lv_goto (tgt := 2) hx hb dX4_isShownBySomeTest_39 (by decide) ?_
  refine lv_iload_n hx hb dX4_isShownBySomeTest_2 rfl (lv_at hl 0 rfl) ?_
  refine lv_aload_n hx hb dX4_isShownBySomeTest_3 rfl (lv_at hl 1 rfl) ?_
  refine va_get (D := (dC, dI)) (ci := 4) (v := .int 7) (C := RX4) (T := TX4) (N := 3) hx hb hts in_X4 hown hK hP 1 rfl rfl 2 (by decide) (hts _ q_358) (fun _ h9 => h9) rfl dX4_isShownBySomeTest_4 ?_
  refine lv_icmp_ge (tgt := 42) hx hb dX4_isShownBySomeTest_7 (by decide) (fun _ => ?_) (fun cz => absurd (by decide) cz)
  refine lv_iconst (v := 0) hx hb dX4_isShownBySomeTest_42 (by decide) ?_
  exact W.zret (v := 0) (ty := .boolean) hx hb hr rfl (fun t9 ht9 hW9 => ⟨⟨0, (), rfl, rfl, ⟨pq_mk2 hP hD hK [1, 2, 3, 0, 4, 5, 6, 7, 8, 9, 10, 11, 12, 13] [0, 1, 2] rfl rfl rfl ht9 hW9, by rw [ht9]; exact Nat.le_trans (Nat.add_le_add_left (Nat.le_of_ble_eq_true rfl) _) hG⟩⟩, hS.F ht9⟩) hS.2.2 dX4_isShownBySomeTest_43

set_option maxHeartbeats 4000000 in
set_option maxRecDepth 100000 in
theorem k990_isStuckShown (l : Launch) (hl9 : l.stackTraces = false) (dC : Nat → ClassId) (dI : Nat → Nat → Nat) (z : XZ) (h0 h1 h2 h3 h4 h5 h6 h7 h8 h9 h10 h11 h12 h13 h14 : Nat) (o0 o1 o2 o3 o4 o5 o6 o7 o8 : Nat) (sz : Nat) (kc0 kc1 kc2 : ClassId) : Met l yX4_isStuckShown (.code yX4_isStuckShown cX4_isStuckShown 6 (some .boolean) :: wsL_law) ({ frames := 5, cells := 0, slots := 0, locals := 112 }) (va_Pc [.ref h0, .ref h1, .int 49, .int 0] (PC (dC, dI) [(h0, ce417 h2 o0), (h1, ce427 (z.2.1 0) o1 h1), (h2, ce7 h3 h4 o2 h5), (h3, ce331 h6), (h4, ce331 h7), (h5, ce366 h8), (h6, ce330 kc0 h1 h9 h10 h11 h12 h13 h14), (h7, ce330 kc1 h1 h9 h10 h11 h12 h13 h14), (h8, ce330 kc2 h1 h9 h10 h11 h12 h13 h14), (h9, ce428 (z.2.1 0) o3 h9), (h10, ce429 (z.2.1 0) o4 h10), (h11, ce430 (z.2.1 0) o5 h11), (h12, ce431 (z.2.1 0) o6 h12), (h13, ce432 (z.2.1 0) o7 h13), (h14, ce433 (z.2.1 0) o8 h14)] [(kc0, .object "java/lang/Object"), (kc1, .object "java/lang/Object"), (kc2, .object "java/lang/Object")] sz z)) (va_Qi (fun (r : Int32) (_ : Unit) => r = 0) (fun (_ : Unit) (t : State) => PG (dC, dI) [(h0, ce417 h2 o0), (h1, ce434 (z.2.1 0) o1 h1), (h2, ce7 h3 h4 o2 h5), (h3, ce331 h6), (h4, ce331 h7), (h5, ce366 h8), (h6, ce330 kc0 h1 h9 h10 h11 h12 h13 h14), (h7, ce330 kc1 h1 h9 h10 h11 h12 h13 h14), (h8, ce330 kc2 h1 h9 h10 h11 h12 h13 h14), (h9, ce428 (z.2.1 0) o3 h9), (h10, ce429 (z.2.1 0) o4 h10), (h11, ce430 (z.2.1 0) o5 h11), (h12, ce431 (z.2.1 0) o6 h12), (h13, ce432 (z.2.1 0) o7 h13), (h14, ce433 (z.2.1 0) o8 h14)] [(kc0, .object "java/lang/Object"), (kc1, .object "java/lang/Object"), (kc2, .object "java/lang/Object")] (va_A [(h0, ce417 h2 o0), (h1, ce427 (z.2.1 0) o1 h1), (h2, ce7 h3 h4 o2 h5), (h3, ce331 h6), (h4, ce331 h7), (h5, ce366 h8), (h6, ce330 kc0 h1 h9 h10 h11 h12 h13 h14), (h7, ce330 kc1 h1 h9 h10 h11 h12 h13 h14), (h8, ce330 kc2 h1 h9 h10 h11 h12 h13 h14), (h9, ce428 (z.2.1 0) o3 h9), (h10, ce429 (z.2.1 0) o4 h10), (h11, ce430 (z.2.1 0) o5 h11), (h12, ce431 (z.2.1 0) o6 h12), (h13, ce432 (z.2.1 0) o7 h13), (h14, ce433 (z.2.1 0) o8 h14)] sz) sz 0 t) (va_A [(h0, ce417 h2 o0), (h1, ce427 (z.2.1 0) o1 h1), (h2, ce7 h3 h4 o2 h5), (h3, ce331 h6), (h4, ce331 h7), (h5, ce366 h8), (h6, ce330 kc0 h1 h9 h10 h11 h12 h13 h14), (h7, ce330 kc1 h1 h9 h10 h11 h12 h13 h14), (h8, ce330 kc2 h1 h9 h10 h11 h12 h13 h14), (h9, ce428 (z.2.1 0) o3 h9), (h10, ce429 (z.2.1 0) o4 h10), (h11, ce430 (z.2.1 0) o5 h11), (h12, ce431 (z.2.1 0) o6 h12), (h13, ce432 (z.2.1 0) o7 h13), (h14, ce433 (z.2.1 0) o8 h14)] sz)) 0 0 (va_A [(h0, ce417 h2 o0), (h1, ce427 (z.2.1 0) o1 h1), (h2, ce7 h3 h4 o2 h5), (h3, ce331 h6), (h4, ce331 h7), (h5, ce366 h8), (h6, ce330 kc0 h1 h9 h10 h11 h12 h13 h14), (h7, ce330 kc1 h1 h9 h10 h11 h12 h13 h14), (h8, ce330 kc2 h1 h9 h10 h11 h12 h13 h14), (h9, ce428 (z.2.1 0) o3 h9), (h10, ce429 (z.2.1 0) o4 h10), (h11, ce430 (z.2.1 0) o5 h11), (h12, ce431 (z.2.1 0) o6 h12), (h13, ce432 (z.2.1 0) o7 h13), (h14, ce433 (z.2.1 0) o8 h14)] sz) := by
  refine Met.ofW (cc := cX4_isStuckShown) (maxL := 6) (ret := (some .boolean)) (by decide) rfl ?_
  intro p e s m args below meth c s₁ B hml hv
  obtain ⟨rfl, hsz, hP, hK, hD0, hX, hT⟩ := hv
  have hx := B.exec
  have hb := B.bytes
  have hr := B.returns
  have hts0 := atoms_spec (ws := .code yX4_isStuckShown cX4_isStuckShown 6 (some .boolean) :: wsL_law) B.pre
  have hts := xTail hts0
  have hown : s.vm.findClass RX4 = some m.cls := xown B.named rfl
  have hlocks := B.notSynchronized
  subst hsz
  have hD := hD0.self (sz := s.heap.size)
  generalize hAe : va_A [(h0, ce417 h2 o0), (h1, ce427 (z.2.1 0) o1 h1), (h2, ce7 h3 h4 o2 h5), (h3, ce331 h6), (h4, ce331 h7), (h5, ce366 h8), (h6, ce330 kc0 h1 h9 h10 h11 h12 h13 h14), (h7, ce330 kc1 h1 h9 h10 h11 h12 h13 h14), (h8, ce330 kc2 h1 h9 h10 h11 h12 h13 h14), (h9, ce428 (z.2.1 0) o3 h9), (h10, ce429 (z.2.1 0) o4 h10), (h11, ce430 (z.2.1 0) o5 h11), (h12, ce431 (z.2.1 0) o6 h12), (h13, ce432 (z.2.1 0) o7 h13), (h14, ce433 (z.2.1 0) o8 h14)] s.heap.size = A at hD hX ⊢
  have hA : ∀ q : Nat, s.heap.size ≤ q → A q := fun q h => by rw [← hAe]; exact Or.inr h
  have hS : va_S A s.heap s.heap [] := va_S.rf
  have hG : s.heap.size + 0 ≤ s.heap.size := Nat.le_refl _
  have hl := lv_entry ([.ref h0, .ref h1, .int 49, .int 0]) (n := 6) (Nat.le_of_ble_eq_true rfl)
  rw [lg_entry_eq]
  generalize (lg_sl ([.ref h0, .ref h1, .int 49, .int 0]) ++ List.replicate (6 - (lg_sl ([.ref h0, .ref h1, .int 49, .int 0])).length) Slot.unset).toArray = ls at hl ⊢
  have hl : lv_has ls 6 [(0, .ref h0), (1, .ref h1), (2, .int 49), (3, .int 0)] := hl
  refine lv_aload_n hx hb dX4_isStuckShown_0 rfl (lv_at hl 0 rfl) ?_
  refine lv_iload_n hx hb dX4_isStuckShown_1 rfl (lv_at hl 3 rfl) ?_
  refine lv_null hx hb dX4_isStuckShown_2 ?_
  refine lv_bipush (v := 120) hx hb dX4_isStuckShown_3 (by decide) ?_
  have hM3 := k874_tryRow l hl9 dC dI z h0 h2 h4 h5 h7 h8 h1 h9 h10 h11 h12 h13 h14 o0 h3 o2 o1 o3 o4 o5 o6 o7 o8 s.heap.size kc1 kc2
  obtain ⟨hF1, hC4⟩ := pc_M hM3 hP hD hK hS hX hT hA [0, 2, 4, 5, 7, 8, 1, 9, 10, 11, 12, 13, 14] [1, 2] rfl rfl rfl
  refine va_callv (va_runV (As := [.int 0, .null, .int 120]) (rest := []) ⟨hx, hb, hml, hown, hts⟩ hM3 (cwV 3 hts (gV q_388 q_389 q_390 q_46 q_387) rfl rfl rfl hV_X4_tryRow ⟨Nat.le_of_ble_eq_true rfl, Nat.le_of_ble_eq_true rfl⟩) ⟨pc_blind, va_recv hK hP (ci := 4) (q := (RX4, TX4, 3)) (q0 := 0) rfl rfl, fun U hU hW => ⟨rfl, hC4 U hU hW⟩⟩ rfl rfl hl.1 rfl (lv_room (Nat.le_of_ble_eq_true rfl)) dX4_isStuckShown_5 ⟨(Nat.le_of_ble_eq_true rfl), (Nat.le_of_ble_eq_true rfl)⟩) hS (fun q9 _ h9 => hF1 q9 h9) hF1 (fun u5 t5 H5 L5 ht5 hvm5 hw5 hB5 hz5 hk5 hS => ?_)
  have hP := pq_keep hP hD [0, 2, 4, 5, 7, 8, 1, 9, 10, 11, 12, 13, 14] rfl hk5 hB5.1 ht5
  have hG : s.heap.size + 0 ≤ H5.size := Nat.le_trans hG hz5
  refine lv_aload_n hx hb dX4_isStuckShown_8 rfl (lv_at hl 1 rfl) ?_
  refine va_get (D := (dC, dI)) (ci := 3) (v := .int 48) (C := RX2) (T := TX2) (N := 19) hx hb hts in_X2 hown hK hP 1 rfl rfl 11 (by decide) (hts _ q_385) (fun _ h9 => h9) rfl dX4_isStuckShown_9 ?_
  refine lv_iload_n hx hb dX4_isStuckShown_12 rfl (lv_at hl 2 rfl) ?_
  refine lv_icmp_ne (tgt := 18) hx hb dX4_isStuckShown_13 (by decide) (fun _ => ?_) (fun cz => absurd cz (by decide))
  refine lv_iconst (v := 0) hx hb dX4_isStuckShown_18 (by decide) ?_
  refine lv_istore (lv' := [(4, .int 0), (0, .ref h0), (1, .ref h1), (2, .int 49), (3, .int 0)]) hx hb dX4_isStuckShown_19 hl (by decide) rfl (fun ls hl => ?_)
  refine lv_iload hx hb dX4_isStuckShown_21 (lv_at hl 0 rfl) ?_
  refine lv_aload_n hx hb dX4_isStuckShown_23 rfl (lv_at hl 1 rfl) ?_
  refine va_get (D := (dC, dI)) (ci := 4) (v := .ref h2) (C := RX4) (T := TX4) (N := 3) hx hb hts in_X4 hown hK hP 0 rfl rfl 0 (by decide) (hts _ q_50) (fun _ h9 => h9) rfl dX4_isStuckShown_24 ?_
  refine va_get (D := (dC, dI)) (ci := 2) (v := .ref h3) (C := RX0) (T := TX0) (N := 4) hx hb hts in_X0 hown hK hP 2 rfl rfl 0 (by decide) (hts _ q_399) (fun _ h9 => h9) rfl dX4_isStuckShown_27 ?_
  have hM9 := k20_size l hl9 dC dI z h3 h6 H5.size 7 7
  obtain ⟨hF7, hC10⟩ := pc_M hM9 hP hD hK hS hX hT hA [3] [] rfl rfl rfl
  refine va_calli (va_runV (As := []) (rest := [.int 0]) ⟨hx, hb, hml, hown, hts⟩ hM9 (cwV 0 hts (gV q_348 q_77 q_78 q_12 q_75) rfl rfl rfl hV_Jx4a65c_size_8abf5 ⟨Nat.le_of_ble_eq_true rfl, Nat.le_of_ble_eq_true rfl⟩) ⟨pc_blind, va_recv hK hP (ci := 0) (q := (RJx4a65c, TJx4a65c, 3)) (q0 := 3) rfl rfl, fun U hU hW => ⟨rfl, hC10 U hU hW⟩⟩ rfl rfl hl.1 rfl (lv_room (Nat.le_of_ble_eq_true rfl)) dX4_isStuckShown_30 ⟨(Nat.le_of_ble_eq_true rfl), (Nat.le_of_ble_eq_true rfl)⟩) hS (fun q9 _ h9 => hF7 q9 h9) hF7 (fun r12 u11 t11 H11 L11 ht11 hvm11 hw11 hB11 hz11 hk11 hS => ?_)
  have hP := pq_keep hP hD [3] rfl hk11 hB11.1 ht11
  have hG : s.heap.size + 0 ≤ H11.size := Nat.le_trans hG hz11
  refine W.eq (g2 := F0 m 33 ls [.int 7, .int 0]) (by rw [hw11]) ?_
  refine lv_icmp_ge (tgt := 69) hx hb dX4_isStuckShown_33 (by decide) (fun cz => absurd cz (by decide)) (fun _ => ?_)
  refine lv_aload_n hx hb dX4_isStuckShown_36 rfl (lv_at hl 1 rfl) ?_
  refine va_get (D := (dC, dI)) (ci := 4) (v := .ref h2) (C := RX4) (T := TX4) (N := 3) hx hb hts in_X4 hown hK hP 0 rfl rfl 0 (by decide) (hts _ q_50) (fun _ h9 => h9) rfl dX4_isStuckShown_37 ?_
  refine va_get (D := (dC, dI)) (ci := 2) (v := .ref h3) (C := RX0) (T := TX0) (N := 4) hx hb hts in_X0 hown hK hP 2 rfl rfl 0 (by decide) (hts _ q_399) (fun _ h9 => h9) rfl dX4_isStuckShown_40 ?_
  refine lv_iload hx hb dX4_isStuckShown_43 (lv_at hl 0 rfl) ?_
  have hM15 := k632_get l hl9 dC dI z h3 h6 h1 h9 h10 h11 h12 h13 h14 H11.size kc0
  obtain ⟨hF13, hC16⟩ := pc_M hM15 hP hD hK hS hX hT hA [3, 6] [0] rfl rfl rfl
  refine va_callr (va_runV (As := [.int 0]) (rest := []) ⟨hx, hb, hml, hown, hts⟩ hM15 (cwV 1 hts (gV q_383 q_157 q_158 q_12 q_155) rfl rfl rfl hV_Jx4a65c_get_915e3 ⟨Nat.le_of_ble_eq_true rfl, Nat.le_of_ble_eq_true rfl⟩) ⟨pc_blind, va_recv hK hP (ci := 0) (q := (RJx4a65c, TJx4a65c, 3)) (q0 := 3) rfl rfl, fun U hU hW => ⟨rfl, hC16 U hU hW⟩⟩ rfl rfl hl.1 rfl (lv_room (Nat.le_of_ble_eq_true rfl)) dX4_isStuckShown_45 ⟨(Nat.le_of_ble_eq_true rfl), (Nat.le_of_ble_eq_true rfl)⟩) hS (fun q9 _ h9 => hF13 q9 h9) hF13 (fun u17 r18 t17 H17 L17 ht17 hvm17 hw17 hB17 hz17 hk17 hS => ?_)
  obtain ⟨hr17, hB17⟩ := hB17
  have hP := pq_keep hP hD [3, 6] rfl hk17 hB17.1 ht17
  have hG : s.heap.size + 0 ≤ H17.size := Nat.le_trans hG hz17
  refine W.eq (g2 := F0 m 48 ls [.ref h1]) (by rw [hr17]) ?_
  refine va_castE (nm := RX2) hx hb hown (hts _ q_384) (va_recv hK hP (ci := 3) (q := (RX2, TX2, 19)) (q0 := 1) rfl rfl) dX4_isStuckShown_48 ?_
  refine lv_astore (lv' := [(5, .ref h1), (4, .int 0), (0, .ref h0), (1, .ref h1), (2, .int 49), (3, .int 0)]) hx hb dX4_isStuckShown_51 hl (by decide) rfl (fun ls hl => ?_)
  refine lv_aload hx hb dX4_isStuckShown_53 (lv_at hl 0 rfl) ?_
  refine lv_aload hx hb dX4_isStuckShown_55 (lv_at hl 0 rfl) ?_
  refine va_get (D := (dC, dI)) (ci := 3) (v := .int 48) (C := RX2) (T := TX2) (N := 19) hx hb hts in_X2 hown hK hP 1 rfl rfl 11 (by decide) (hts _ q_385) (fun _ h9 => h9) rfl dX4_isStuckShown_57 ?_
  refine va_put (D := (dC, dI)) (ci := 3) (v := .int 48) (ty := .char) (C := RX2) (T := TX2) (N := 19) hx hb hts in_X2 tyX2 tyX2_ok nmX2 hown hK hP hD (va_Sre hS) 1 rfl rfl 12 (by decide) (hts _ q_400) (fun _ h9 => h9) rfl (by decide +kernel) rfl rfl (Nat.le_of_ble_eq_true rfl) dX4_isStuckShown_60 (fun H19 _ hP hD hS' => ?_)
  have hG : s.heap.size + 0 ≤ H19.size := Nat.le_trans hG hS'.1
  have hS := va_Str hS hS'
  have hP : va_P (dC, dI) xCl [(h0, ce417 h2 o0), (h1, ce427 (z.2.1 0) o1 h1), (h2, ce7 h3 h4 o2 h5), (h3, ce331 h6), (h4, ce331 h7), (h5, ce366 h8), (h6, ce330 kc0 h1 h9 h10 h11 h12 h13 h14), (h7, ce330 kc1 h1 h9 h10 h11 h12 h13 h14), (h8, ce330 kc2 h1 h9 h10 h11 h12 h13 h14), (h9, ce428 (z.2.1 0) o3 h9), (h10, ce429 (z.2.1 0) o4 h10), (h11, ce430 (z.2.1 0) o5 h11), (h12, ce431 (z.2.1 0) o6 h12), (h13, ce432 (z.2.1 0) o7 h13), (h14, ce433 (z.2.1 0) o8 h14)] H19 := hP
  have hD := vd_as hP hD rfl
  refine lv_iinc (v := 1) (lv' := [(4, .int 1), (5, .ref h1), (0, .ref h0), (1, .ref h1), (2, .int 49), (3, .int 0)]) hx hb dX4_isStuckShown_63 hl (k := 1) rfl (by decide) (by decide) rfl (fun ls hl => ?_)
  refine lv_goto (tgt := 21) hx hb dX4_isStuckShown_66 (by decide) ?_
  refine lv_iload hx hb dX4_isStuckShown_21 (lv_at hl 0 rfl) ?_
  refine lv_aload_n hx hb dX4_isStuckShown_23 rfl (lv_at hl 2 rfl) ?_
  refine va_get (D := (dC, dI)) (ci := 4) (v := .ref h2) (C := RX4) (T := TX4) (N := 3) hx hb hts in_X4 hown hK hP 0 rfl rfl 0 (by decide) (hts _ q_50) (fun _ h9 => h9) rfl dX4_isStuckShown_24 ?_
  refine va_get (D := (dC, dI)) (ci := 2) (v := .ref h3) (C := RX0) (T := TX0) (N := 4) hx hb hts in_X0 hown hK hP 2 rfl rfl 0 (by decide) (hts _ q_399) (fun _ h9 => h9) rfl dX4_isStuckShown_27 ?_
  have hM22 := k20_size l hl9 dC dI z h3 h6 H19.size 7 7
  obtain ⟨hF20, hC23⟩ := pc_M hM22 hP hD hK hS hX hT hA [3] [] rfl rfl rfl
  refine va_calli (va_runV (As := []) (rest := [.int 1]) ⟨hx, hb, hml, hown, hts⟩ hM22 (cwV 0 hts (gV q_348 q_77 q_78 q_12 q_75) rfl rfl rfl hV_Jx4a65c_size_8abf5 ⟨Nat.le_of_ble_eq_true rfl, Nat.le_of_ble_eq_true rfl⟩) ⟨pc_blind, va_recv hK hP (ci := 0) (q := (RJx4a65c, TJx4a65c, 3)) (q0 := 3) rfl rfl, fun U hU hW => ⟨rfl, hC23 U hU hW⟩⟩ rfl rfl hl.1 rfl (lv_room (Nat.le_of_ble_eq_true rfl)) dX4_isStuckShown_30 ⟨(Nat.le_of_ble_eq_true rfl), (Nat.le_of_ble_eq_true rfl)⟩) hS (fun q9 _ h9 => hF20 q9 h9) hF20 (fun r25 u24 t24 H24 L24 ht24 hvm24 hw24 hB24 hz24 hk24 hS => ?_)
  have hP := pq_keep hP hD [3] rfl hk24 hB24.1 ht24
  have hG : s.heap.size + 0 ≤ H24.size := Nat.le_trans hG hz24
  refine W.eq (g2 := F0 m 33 ls [.int 7, .int 1]) (by rw [hw24]) ?_
  refine lv_icmp_ge (tgt := 69) hx hb dX4_isStuckShown_33 (by decide) (fun cz => absurd cz (by decide)) (fun _ => ?_)
  refine lv_aload_n hx hb dX4_isStuckShown_36 rfl (lv_at hl 2 rfl) ?_
  refine va_get (D := (dC, dI)) (ci := 4) (v := .ref h2) (C := RX4) (T := TX4) (N := 3) hx hb hts in_X4 hown hK hP 0 rfl rfl 0 (by decide) (hts _ q_50) (fun _ h9 => h9) rfl dX4_isStuckShown_37 ?_
  refine va_get (D := (dC, dI)) (ci := 2) (v := .ref h3) (C := RX0) (T := TX0) (N := 4) hx hb hts in_X0 hown hK hP 2 rfl rfl 0 (by decide) (hts _ q_399) (fun _ h9 => h9) rfl dX4_isStuckShown_40 ?_
  refine lv_iload hx hb dX4_isStuckShown_43 (lv_at hl 0 rfl) ?_
  have hM28 := k636_get l hl9 dC dI z h3 h6 h1 h9 h10 h11 h12 h13 h14 H24.size kc0
  obtain ⟨hF26, hC29⟩ := pc_M hM28 hP hD hK hS hX hT hA [3, 6] [0] rfl rfl rfl
  refine va_callr (va_runV (As := [.int 1]) (rest := []) ⟨hx, hb, hml, hown, hts⟩ hM28 (cwV 1 hts (gV q_383 q_157 q_158 q_12 q_155) rfl rfl rfl hV_Jx4a65c_get_915e3 ⟨Nat.le_of_ble_eq_true rfl, Nat.le_of_ble_eq_true rfl⟩) ⟨pc_blind, va_recv hK hP (ci := 0) (q := (RJx4a65c, TJx4a65c, 3)) (q0 := 3) rfl rfl, fun U hU hW => ⟨rfl, hC29 U hU hW⟩⟩ rfl rfl hl.1 rfl (lv_room (Nat.le_of_ble_eq_true rfl)) dX4_isStuckShown_45 ⟨(Nat.le_of_ble_eq_true rfl), (Nat.le_of_ble_eq_true rfl)⟩) hS (fun q9 _ h9 => hF26 q9 h9) hF26 (fun u30 r31 t30 H30 L30 ht30 hvm30 hw30 hB30 hz30 hk30 hS => ?_)
  obtain ⟨hr30, hB30⟩ := hB30
  have hP := pq_keep hP hD [3, 6] rfl hk30 hB30.1 ht30
  have hG : s.heap.size + 0 ≤ H30.size := Nat.le_trans hG hz30
  refine W.eq (g2 := F0 m 48 ls [.ref h9]) (by rw [hr30]) ?_
  refine va_castE (nm := RX2) hx hb hown (hts _ q_384) (va_recv hK hP (ci := 3) (q := (RX2, TX2, 19)) (q0 := 9) rfl rfl) dX4_isStuckShown_48 ?_
  refine lv_astore (lv' := [(5, .ref h9), (4, .int 1), (0, .ref h0), (1, .ref h1), (2, .int 49), (3, .int 0)]) hx hb dX4_isStuckShown_51 hl (by decide) rfl (fun ls hl => ?_)
  refine lv_aload hx hb dX4_isStuckShown_53 (lv_at hl 0 rfl) ?_
  refine lv_aload hx hb dX4_isStuckShown_55 (lv_at hl 0 rfl) ?_
  refine va_get (D := (dC, dI)) (ci := 3) (v := .int 48) (C := RX2) (T := TX2) (N := 19) hx hb hts in_X2 hown hK hP 9 rfl rfl 11 (by decide) (hts _ q_385) (fun _ h9 => h9) rfl dX4_isStuckShown_57 ?_
  refine va_put (D := (dC, dI)) (ci := 3) (v := .int 48) (ty := .char) (C := RX2) (T := TX2) (N := 19) hx hb hts in_X2 tyX2 tyX2_ok nmX2 hown hK hP hD (va_Sre hS) 9 rfl rfl 12 (by decide) (hts _ q_400) (fun _ h9 => h9) rfl (by decide +kernel) rfl rfl (Nat.le_of_ble_eq_true rfl) dX4_isStuckShown_60 (fun H32 _ hP hD hS' => ?_)
  have hG : s.heap.size + 0 ≤ H32.size := Nat.le_trans hG hS'.1
  have hS := va_Str hS hS'
  have hP : va_P (dC, dI) xCl [(h0, ce417 h2 o0), (h1, ce427 (z.2.1 0) o1 h1), (h2, ce7 h3 h4 o2 h5), (h3, ce331 h6), (h4, ce331 h7), (h5, ce366 h8), (h6, ce330 kc0 h1 h9 h10 h11 h12 h13 h14), (h7, ce330 kc1 h1 h9 h10 h11 h12 h13 h14), (h8, ce330 kc2 h1 h9 h10 h11 h12 h13 h14), (h9, ce428 (z.2.1 0) o3 h9), (h10, ce429 (z.2.1 0) o4 h10), (h11, ce430 (z.2.1 0) o5 h11), (h12, ce431 (z.2.1 0) o6 h12), (h13, ce432 (z.2.1 0) o7 h13), (h14, ce433 (z.2.1 0) o8 h14)] H32 := hP
  have hD := vd_as hP hD rfl
  refine lv_iinc (v := 2) (lv' := [(4, .int 2), (5, .ref h9), (0, .ref h0), (1, .ref h1), (2, .int 49), (3, .int 0)]) hx hb dX4_isStuckShown_63 hl (k := 1) rfl (by decide) (by decide) rfl (fun ls hl => ?_)
  refine lv_goto (tgt := 21) hx hb dX4_isStuckShown_66 (by decide) ?_
  refine lv_iload hx hb dX4_isStuckShown_21 (lv_at hl 0 rfl) ?_
  refine lv_aload_n hx hb dX4_isStuckShown_23 rfl (lv_at hl 2 rfl) ?_
  refine va_get (D := (dC, dI)) (ci := 4) (v := .ref h2) (C := RX4) (T := TX4) (N := 3) hx hb hts in_X4 hown hK hP 0 rfl rfl 0 (by decide) (hts _ q_50) (fun _ h9 => h9) rfl dX4_isStuckShown_24 ?_
  refine va_get (D := (dC, dI)) (ci := 2) (v := .ref h3) (C := RX0) (T := TX0) (N := 4) hx hb hts in_X0 hown hK hP 2 rfl rfl 0 (by decide) (hts _ q_399) (fun _ h9 => h9) rfl dX4_isStuckShown_27 ?_
  have hM35 := k20_size l hl9 dC dI z h3 h6 H32.size 7 7
  obtain ⟨hF33, hC36⟩ := pc_M hM35 hP hD hK hS hX hT hA [3] [] rfl rfl rfl
  refine va_calli (va_runV (As := []) (rest := [.int 2]) ⟨hx, hb, hml, hown, hts⟩ hM35 (cwV 0 hts (gV q_348 q_77 q_78 q_12 q_75) rfl rfl rfl hV_Jx4a65c_size_8abf5 ⟨Nat.le_of_ble_eq_true rfl, Nat.le_of_ble_eq_true rfl⟩) ⟨pc_blind, va_recv hK hP (ci := 0) (q := (RJx4a65c, TJx4a65c, 3)) (q0 := 3) rfl rfl, fun U hU hW => ⟨rfl, hC36 U hU hW⟩⟩ rfl rfl hl.1 rfl (lv_room (Nat.le_of_ble_eq_true rfl)) dX4_isStuckShown_30 ⟨(Nat.le_of_ble_eq_true rfl), (Nat.le_of_ble_eq_true rfl)⟩) hS (fun q9 _ h9 => hF33 q9 h9) hF33 (fun r38 u37 t37 H37 L37 ht37 hvm37 hw37 hB37 hz37 hk37 hS => ?_)
  have hP := pq_keep hP hD [3] rfl hk37 hB37.1 ht37
  have hG : s.heap.size + 0 ≤ H37.size := Nat.le_trans hG hz37
  refine W.eq (g2 := F0 m 33 ls [.int 7, .int 2]) (by rw [hw37]) ?_
  refine lv_icmp_ge (tgt := 69) hx hb dX4_isStuckShown_33 (by decide) (fun cz => absurd cz (by decide)) (fun _ => ?_)
  refine lv_aload_n hx hb dX4_isStuckShown_36 rfl (lv_at hl 2 rfl) ?_
  refine va_get (D := (dC, dI)) (ci := 4) (v := .ref h2) (C := RX4) (T := TX4) (N := 3) hx hb hts in_X4 hown hK hP 0 rfl rfl 0 (by decide) (hts _ q_50) (fun _ h9 => h9) rfl dX4_isStuckShown_37 ?_
  refine va_get (D := (dC, dI)) (ci := 2) (v := .ref h3) (C := RX0) (T := TX0) (N := 4) hx hb hts in_X0 hown hK hP 2 rfl rfl 0 (by decide) (hts _ q_399) (fun _ h9 => h9) rfl dX4_isStuckShown_40 ?_
  refine lv_iload hx hb dX4_isStuckShown_43 (lv_at hl 0 rfl) ?_
  have hM41 := k640_get l hl9 dC dI z h3 h6 h1 h9 h10 h11 h12 h13 h14 H37.size kc0
  obtain ⟨hF39, hC42⟩ := pc_M hM41 hP hD hK hS hX hT hA [3, 6] [0] rfl rfl rfl
  refine va_callr (va_runV (As := [.int 2]) (rest := []) ⟨hx, hb, hml, hown, hts⟩ hM41 (cwV 1 hts (gV q_383 q_157 q_158 q_12 q_155) rfl rfl rfl hV_Jx4a65c_get_915e3 ⟨Nat.le_of_ble_eq_true rfl, Nat.le_of_ble_eq_true rfl⟩) ⟨pc_blind, va_recv hK hP (ci := 0) (q := (RJx4a65c, TJx4a65c, 3)) (q0 := 3) rfl rfl, fun U hU hW => ⟨rfl, hC42 U hU hW⟩⟩ rfl rfl hl.1 rfl (lv_room (Nat.le_of_ble_eq_true rfl)) dX4_isStuckShown_45 ⟨(Nat.le_of_ble_eq_true rfl), (Nat.le_of_ble_eq_true rfl)⟩) hS (fun q9 _ h9 => hF39 q9 h9) hF39 (fun u43 r44 t43 H43 L43 ht43 hvm43 hw43 hB43 hz43 hk43 hS => ?_)
  obtain ⟨hr43, hB43⟩ := hB43
  have hP := pq_keep hP hD [3, 6] rfl hk43 hB43.1 ht43
  have hG : s.heap.size + 0 ≤ H43.size := Nat.le_trans hG hz43
  refine W.eq (g2 := F0 m 48 ls [.ref h10]) (by rw [hr43]) ?_
  refine va_castE (nm := RX2) hx hb hown (hts _ q_384) (va_recv hK hP (ci := 3) (q := (RX2, TX2, 19)) (q0 := 10) rfl rfl) dX4_isStuckShown_48 ?_
  refine lv_astore (lv' := [(5, .ref h10), (4, .int 2), (0, .ref h0), (1, .ref h1), (2, .int 49), (3, .int 0)]) hx hb dX4_isStuckShown_51 hl (by decide) rfl (fun ls hl => ?_)
  refine lv_aload hx hb dX4_isStuckShown_53 (lv_at hl 0 rfl) ?_
  refine lv_aload hx hb dX4_isStuckShown_55 (lv_at hl 0 rfl) ?_
  refine va_get (D := (dC, dI)) (ci := 3) (v := .int 48) (C := RX2) (T := TX2) (N := 19) hx hb hts in_X2 hown hK hP 10 rfl rfl 11 (by decide) (hts _ q_385) (fun _ h9 => h9) rfl dX4_isStuckShown_57 ?_
  refine va_put (D := (dC, dI)) (ci := 3) (v := .int 48) (ty := .char) (C := RX2) (T := TX2) (N := 19) hx hb hts in_X2 tyX2 tyX2_ok nmX2 hown hK hP hD (va_Sre hS) 10 rfl rfl 12 (by decide) (hts _ q_400) (fun _ h9 => h9) rfl (by decide +kernel) rfl rfl (Nat.le_of_ble_eq_true rfl) dX4_isStuckShown_60 (fun H45 _ hP hD hS' => ?_)
  have hG : s.heap.size + 0 ≤ H45.size := Nat.le_trans hG hS'.1
  have hS := va_Str hS hS'
  have hP : va_P (dC, dI) xCl [(h0, ce417 h2 o0), (h1, ce427 (z.2.1 0) o1 h1), (h2, ce7 h3 h4 o2 h5), (h3, ce331 h6), (h4, ce331 h7), (h5, ce366 h8), (h6, ce330 kc0 h1 h9 h10 h11 h12 h13 h14), (h7, ce330 kc1 h1 h9 h10 h11 h12 h13 h14), (h8, ce330 kc2 h1 h9 h10 h11 h12 h13 h14), (h9, ce428 (z.2.1 0) o3 h9), (h10, ce429 (z.2.1 0) o4 h10), (h11, ce430 (z.2.1 0) o5 h11), (h12, ce431 (z.2.1 0) o6 h12), (h13, ce432 (z.2.1 0) o7 h13), (h14, ce433 (z.2.1 0) o8 h14)] H45 := hP
  have hD := vd_as hP hD rfl
  refine lv_iinc (v := 3) (lv' := [(4, .int 3), (5, .ref h10), (0, .ref h0), (1, .ref h1), (2, .int 49), (3, .int 0)]) hx hb dX4_isStuckShown_63 hl (k := 1) rfl (by decide) (by decide) rfl (fun ls hl => ?_)
  refine lv_goto (tgt := 21) hx hb dX4_isStuckShown_66 (by decide) ?_
  refine lv_iload hx hb dX4_isStuckShown_21 (lv_at hl 0 rfl) ?_
  refine lv_aload_n hx hb dX4_isStuckShown_23 rfl (lv_at hl 2 rfl) ?_
  refine va_get (D := (dC, dI)) (ci := 4) (v := .ref h2) (C := RX4) (T := TX4) (N := 3) hx hb hts in_X4 hown hK hP 0 rfl rfl 0 (by decide) (hts _ q_50) (fun _ h9 => h9) rfl dX4_isStuckShown_24 ?_
  refine va_get (D := (dC, dI)) (ci := 2) (v := .ref h3) (C := RX0) (T := TX0) (N := 4) hx hb hts in_X0 hown hK hP 2 rfl rfl 0 (by decide) (hts _ q_399) (fun _ h9 => h9) rfl dX4_isStuckShown_27 ?_
  have hM48 := k20_size l hl9 dC dI z h3 h6 H45.size 7 7
  obtain ⟨hF46, hC49⟩ := pc_M hM48 hP hD hK hS hX hT hA [3] [] rfl rfl rfl
  refine va_calli (va_runV (As := []) (rest := [.int 3]) ⟨hx, hb, hml, hown, hts⟩ hM48 (cwV 0 hts (gV q_348 q_77 q_78 q_12 q_75) rfl rfl rfl hV_Jx4a65c_size_8abf5 ⟨Nat.le_of_ble_eq_true rfl, Nat.le_of_ble_eq_true rfl⟩) ⟨pc_blind, va_recv hK hP (ci := 0) (q := (RJx4a65c, TJx4a65c, 3)) (q0 := 3) rfl rfl, fun U hU hW => ⟨rfl, hC49 U hU hW⟩⟩ rfl rfl hl.1 rfl (lv_room (Nat.le_of_ble_eq_true rfl)) dX4_isStuckShown_30 ⟨(Nat.le_of_ble_eq_true rfl), (Nat.le_of_ble_eq_true rfl)⟩) hS (fun q9 _ h9 => hF46 q9 h9) hF46 (fun r51 u50 t50 H50 L50 ht50 hvm50 hw50 hB50 hz50 hk50 hS => ?_)
  have hP := pq_keep hP hD [3] rfl hk50 hB50.1 ht50
  have hG : s.heap.size + 0 ≤ H50.size := Nat.le_trans hG hz50
  refine W.eq (g2 := F0 m 33 ls [.int 7, .int 3]) (by rw [hw50]) ?_
  refine lv_icmp_ge (tgt := 69) hx hb dX4_isStuckShown_33 (by decide) (fun cz => absurd cz (by decide)) (fun _ => ?_)
  refine lv_aload_n hx hb dX4_isStuckShown_36 rfl (lv_at hl 2 rfl) ?_
  refine va_get (D := (dC, dI)) (ci := 4) (v := .ref h2) (C := RX4) (T := TX4) (N := 3) hx hb hts in_X4 hown hK hP 0 rfl rfl 0 (by decide) (hts _ q_50) (fun _ h9 => h9) rfl dX4_isStuckShown_37 ?_
  refine va_get (D := (dC, dI)) (ci := 2) (v := .ref h3) (C := RX0) (T := TX0) (N := 4) hx hb hts in_X0 hown hK hP 2 rfl rfl 0 (by decide) (hts _ q_399) (fun _ h9 => h9) rfl dX4_isStuckShown_40 ?_
  refine lv_iload hx hb dX4_isStuckShown_43 (lv_at hl 0 rfl) ?_
  have hM54 := k644_get l hl9 dC dI z h3 h6 h1 h9 h10 h11 h12 h13 h14 H50.size kc0
  obtain ⟨hF52, hC55⟩ := pc_M hM54 hP hD hK hS hX hT hA [3, 6] [0] rfl rfl rfl
  refine va_callr (va_runV (As := [.int 3]) (rest := []) ⟨hx, hb, hml, hown, hts⟩ hM54 (cwV 1 hts (gV q_383 q_157 q_158 q_12 q_155) rfl rfl rfl hV_Jx4a65c_get_915e3 ⟨Nat.le_of_ble_eq_true rfl, Nat.le_of_ble_eq_true rfl⟩) ⟨pc_blind, va_recv hK hP (ci := 0) (q := (RJx4a65c, TJx4a65c, 3)) (q0 := 3) rfl rfl, fun U hU hW => ⟨rfl, hC55 U hU hW⟩⟩ rfl rfl hl.1 rfl (lv_room (Nat.le_of_ble_eq_true rfl)) dX4_isStuckShown_45 ⟨(Nat.le_of_ble_eq_true rfl), (Nat.le_of_ble_eq_true rfl)⟩) hS (fun q9 _ h9 => hF52 q9 h9) hF52 (fun u56 r57 t56 H56 L56 ht56 hvm56 hw56 hB56 hz56 hk56 hS => ?_)
  obtain ⟨hr56, hB56⟩ := hB56
  have hP := pq_keep hP hD [3, 6] rfl hk56 hB56.1 ht56
  have hG : s.heap.size + 0 ≤ H56.size := Nat.le_trans hG hz56
  refine W.eq (g2 := F0 m 48 ls [.ref h11]) (by rw [hr56]) ?_
  refine va_castE (nm := RX2) hx hb hown (hts _ q_384) (va_recv hK hP (ci := 3) (q := (RX2, TX2, 19)) (q0 := 11) rfl rfl) dX4_isStuckShown_48 ?_
  refine lv_astore (lv' := [(5, .ref h11), (4, .int 3), (0, .ref h0), (1, .ref h1), (2, .int 49), (3, .int 0)]) hx hb dX4_isStuckShown_51 hl (by decide) rfl (fun ls hl => ?_)
  refine lv_aload hx hb dX4_isStuckShown_53 (lv_at hl 0 rfl) ?_
  refine lv_aload hx hb dX4_isStuckShown_55 (lv_at hl 0 rfl) ?_
  refine va_get (D := (dC, dI)) (ci := 3) (v := .int 48) (C := RX2) (T := TX2) (N := 19) hx hb hts in_X2 hown hK hP 11 rfl rfl 11 (by decide) (hts _ q_385) (fun _ h9 => h9) rfl dX4_isStuckShown_57 ?_
  refine va_put (D := (dC, dI)) (ci := 3) (v := .int 48) (ty := .char) (C := RX2) (T := TX2) (N := 19) hx hb hts in_X2 tyX2 tyX2_ok nmX2 hown hK hP hD (va_Sre hS) 11 rfl rfl 12 (by decide) (hts _ q_400) (fun _ h9 => h9) rfl (by decide +kernel) rfl rfl (Nat.le_of_ble_eq_true rfl) dX4_isStuckShown_60 (fun H58 _ hP hD hS' => ?_)
  have hG : s.heap.size + 0 ≤ H58.size := Nat.le_trans hG hS'.1
  have hS := va_Str hS hS'
  have hP : va_P (dC, dI) xCl [(h0, ce417 h2 o0), (h1, ce427 (z.2.1 0) o1 h1), (h2, ce7 h3 h4 o2 h5), (h3, ce331 h6), (h4, ce331 h7), (h5, ce366 h8), (h6, ce330 kc0 h1 h9 h10 h11 h12 h13 h14), (h7, ce330 kc1 h1 h9 h10 h11 h12 h13 h14), (h8, ce330 kc2 h1 h9 h10 h11 h12 h13 h14), (h9, ce428 (z.2.1 0) o3 h9), (h10, ce429 (z.2.1 0) o4 h10), (h11, ce430 (z.2.1 0) o5 h11), (h12, ce431 (z.2.1 0) o6 h12), (h13, ce432 (z.2.1 0) o7 h13), (h14, ce433 (z.2.1 0) o8 h14)] H58 := hP
  have hD := vd_as hP hD rfl
  refine lv_iinc (v := 4) (lv' := [(4, .int 4), (5, .ref h11), (0, .ref h0), (1, .ref h1), (2, .int 49), (3, .int 0)]) hx hb dX4_isStuckShown_63 hl (k := 1) rfl (by decide) (by decide) rfl (fun ls hl => ?_)
  refine lv_goto (tgt := 21) hx hb dX4_isStuckShown_66 (by decide) ?_
  refine lv_iload hx hb dX4_isStuckShown_21 (lv_at hl 0 rfl) ?_
  refine lv_aload_n hx hb dX4_isStuckShown_23 rfl (lv_at hl 2 rfl) ?_
  refine va_get (D := (dC, dI)) (ci := 4) (v := .ref h2) (C := RX4) (T := TX4) (N := 3) hx hb hts in_X4 hown hK hP 0 rfl rfl 0 (by decide) (hts _ q_50) (fun _ h9 => h9) rfl dX4_isStuckShown_24 ?_
  refine va_get (D := (dC, dI)) (ci := 2) (v := .ref h3) (C := RX0) (T := TX0) (N := 4) hx hb hts in_X0 hown hK hP 2 rfl rfl 0 (by decide) (hts _ q_399) (fun _ h9 => h9) rfl dX4_isStuckShown_27 ?_
  have hM61 := k20_size l hl9 dC dI z h3 h6 H58.size 7 7
  obtain ⟨hF59, hC62⟩ := pc_M hM61 hP hD hK hS hX hT hA [3] [] rfl rfl rfl
  refine va_calli (va_runV (As := []) (rest := [.int 4]) ⟨hx, hb, hml, hown, hts⟩ hM61 (cwV 0 hts (gV q_348 q_77 q_78 q_12 q_75) rfl rfl rfl hV_Jx4a65c_size_8abf5 ⟨Nat.le_of_ble_eq_true rfl, Nat.le_of_ble_eq_true rfl⟩) ⟨pc_blind, va_recv hK hP (ci := 0) (q := (RJx4a65c, TJx4a65c, 3)) (q0 := 3) rfl rfl, fun U hU hW => ⟨rfl, hC62 U hU hW⟩⟩ rfl rfl hl.1 rfl (lv_room (Nat.le_of_ble_eq_true rfl)) dX4_isStuckShown_30 ⟨(Nat.le_of_ble_eq_true rfl), (Nat.le_of_ble_eq_true rfl)⟩) hS (fun q9 _ h9 => hF59 q9 h9) hF59 (fun r64 u63 t63 H63 L63 ht63 hvm63 hw63 hB63 hz63 hk63 hS => ?_)
  have hP := pq_keep hP hD [3] rfl hk63 hB63.1 ht63
  have hG : s.heap.size + 0 ≤ H63.size := Nat.le_trans hG hz63
  refine W.eq (g2 := F0 m 33 ls [.int 7, .int 4]) (by rw [hw63]) ?_
  refine lv_icmp_ge (tgt := 69) hx hb dX4_isStuckShown_33 (by decide) (fun cz => absurd cz (by decide)) (fun _ => ?_)
  refine lv_aload_n hx hb dX4_isStuckShown_36 rfl (lv_at hl 2 rfl) ?_
  refine va_get (D := (dC, dI)) (ci := 4) (v := .ref h2) (C := RX4) (T := TX4) (N := 3) hx hb hts in_X4 hown hK hP 0 rfl rfl 0 (by decide) (hts _ q_50) (fun _ h9 => h9) rfl dX4_isStuckShown_37 ?_
  refine va_get (D := (dC, dI)) (ci := 2) (v := .ref h3) (C := RX0) (T := TX0) (N := 4) hx hb hts in_X0 hown hK hP 2 rfl rfl 0 (by decide) (hts _ q_399) (fun _ h9 => h9) rfl dX4_isStuckShown_40 ?_
  refine lv_iload hx hb dX4_isStuckShown_43 (lv_at hl 0 rfl) ?_
  have hM67 := k648_get l hl9 dC dI z h3 h6 h1 h9 h10 h11 h12 h13 h14 H63.size kc0
  obtain ⟨hF65, hC68⟩ := pc_M hM67 hP hD hK hS hX hT hA [3, 6] [0] rfl rfl rfl
  refine va_callr (va_runV (As := [.int 4]) (rest := []) ⟨hx, hb, hml, hown, hts⟩ hM67 (cwV 1 hts (gV q_383 q_157 q_158 q_12 q_155) rfl rfl rfl hV_Jx4a65c_get_915e3 ⟨Nat.le_of_ble_eq_true rfl, Nat.le_of_ble_eq_true rfl⟩) ⟨pc_blind, va_recv hK hP (ci := 0) (q := (RJx4a65c, TJx4a65c, 3)) (q0 := 3) rfl rfl, fun U hU hW => ⟨rfl, hC68 U hU hW⟩⟩ rfl rfl hl.1 rfl (lv_room (Nat.le_of_ble_eq_true rfl)) dX4_isStuckShown_45 ⟨(Nat.le_of_ble_eq_true rfl), (Nat.le_of_ble_eq_true rfl)⟩) hS (fun q9 _ h9 => hF65 q9 h9) hF65 (fun u69 r70 t69 H69 L69 ht69 hvm69 hw69 hB69 hz69 hk69 hS => ?_)
  obtain ⟨hr69, hB69⟩ := hB69
  have hP := pq_keep hP hD [3, 6] rfl hk69 hB69.1 ht69
  have hG : s.heap.size + 0 ≤ H69.size := Nat.le_trans hG hz69
  refine W.eq (g2 := F0 m 48 ls [.ref h12]) (by rw [hr69]) ?_
  refine va_castE (nm := RX2) hx hb hown (hts _ q_384) (va_recv hK hP (ci := 3) (q := (RX2, TX2, 19)) (q0 := 12) rfl rfl) dX4_isStuckShown_48 ?_
  refine lv_astore (lv' := [(5, .ref h12), (4, .int 4), (0, .ref h0), (1, .ref h1), (2, .int 49), (3, .int 0)]) hx hb dX4_isStuckShown_51 hl (by decide) rfl (fun ls hl => ?_)
  refine lv_aload hx hb dX4_isStuckShown_53 (lv_at hl 0 rfl) ?_
  refine lv_aload hx hb dX4_isStuckShown_55 (lv_at hl 0 rfl) ?_
  refine va_get (D := (dC, dI)) (ci := 3) (v := .int 48) (C := RX2) (T := TX2) (N := 19) hx hb hts in_X2 hown hK hP 12 rfl rfl 11 (by decide) (hts _ q_385) (fun _ h9 => h9) rfl dX4_isStuckShown_57 ?_
  refine va_put (D := (dC, dI)) (ci := 3) (v := .int 48) (ty := .char) (C := RX2) (T := TX2) (N := 19) hx hb hts in_X2 tyX2 tyX2_ok nmX2 hown hK hP hD (va_Sre hS) 12 rfl rfl 12 (by decide) (hts _ q_400) (fun _ h9 => h9) rfl (by decide +kernel) rfl rfl (Nat.le_of_ble_eq_true rfl) dX4_isStuckShown_60 (fun H71 _ hP hD hS' => ?_)
  have hG : s.heap.size + 0 ≤ H71.size := Nat.le_trans hG hS'.1
  have hS := va_Str hS hS'
  have hP : va_P (dC, dI) xCl [(h0, ce417 h2 o0), (h1, ce427 (z.2.1 0) o1 h1), (h2, ce7 h3 h4 o2 h5), (h3, ce331 h6), (h4, ce331 h7), (h5, ce366 h8), (h6, ce330 kc0 h1 h9 h10 h11 h12 h13 h14), (h7, ce330 kc1 h1 h9 h10 h11 h12 h13 h14), (h8, ce330 kc2 h1 h9 h10 h11 h12 h13 h14), (h9, ce428 (z.2.1 0) o3 h9), (h10, ce429 (z.2.1 0) o4 h10), (h11, ce430 (z.2.1 0) o5 h11), (h12, ce431 (z.2.1 0) o6 h12), (h13, ce432 (z.2.1 0) o7 h13), (h14, ce433 (z.2.1 0) o8 h14)] H71 := hP
  have hD := vd_as hP hD rfl
  refine lv_iinc (v := 5) (lv' := [(4, .int 5), (5, .ref h12), (0, .ref h0), (1, .ref h1), (2, .int 49), (3, .int 0)]) hx hb dX4_isStuckShown_63 hl (k := 1) rfl (by decide) (by decide) rfl (fun ls hl => ?_)
  refine lv_goto (tgt := 21) hx hb dX4_isStuckShown_66 (by decide) ?_
  refine lv_iload hx hb dX4_isStuckShown_21 (lv_at hl 0 rfl) ?_
  refine lv_aload_n hx hb dX4_isStuckShown_23 rfl (lv_at hl 2 rfl) ?_
  refine va_get (D := (dC, dI)) (ci := 4) (v := .ref h2) (C := RX4) (T := TX4) (N := 3) hx hb hts in_X4 hown hK hP 0 rfl rfl 0 (by decide) (hts _ q_50) (fun _ h9 => h9) rfl dX4_isStuckShown_24 ?_
  refine va_get (D := (dC, dI)) (ci := 2) (v := .ref h3) (C := RX0) (T := TX0) (N := 4) hx hb hts in_X0 hown hK hP 2 rfl rfl 0 (by decide) (hts _ q_399) (fun _ h9 => h9) rfl dX4_isStuckShown_27 ?_
  have hM74 := k20_size l hl9 dC dI z h3 h6 H71.size 7 7
  obtain ⟨hF72, hC75⟩ := pc_M hM74 hP hD hK hS hX hT hA [3] [] rfl rfl rfl
  refine va_calli (va_runV (As := []) (rest := [.int 5]) ⟨hx, hb, hml, hown, hts⟩ hM74 (cwV 0 hts (gV q_348 q_77 q_78 q_12 q_75) rfl rfl rfl hV_Jx4a65c_size_8abf5 ⟨Nat.le_of_ble_eq_true rfl, Nat.le_of_ble_eq_true rfl⟩) ⟨pc_blind, va_recv hK hP (ci := 0) (q := (RJx4a65c, TJx4a65c, 3)) (q0 := 3) rfl rfl, fun U hU hW => ⟨rfl, hC75 U hU hW⟩⟩ rfl rfl hl.1 rfl (lv_room (Nat.le_of_ble_eq_true rfl)) dX4_isStuckShown_30 ⟨(Nat.le_of_ble_eq_true rfl), (Nat.le_of_ble_eq_true rfl)⟩) hS (fun q9 _ h9 => hF72 q9 h9) hF72 (fun r77 u76 t76 H76 L76 ht76 hvm76 hw76 hB76 hz76 hk76 hS => ?_)
  have hP := pq_keep hP hD [3] rfl hk76 hB76.1 ht76
  have hG : s.heap.size + 0 ≤ H76.size := Nat.le_trans hG hz76
  refine W.eq (g2 := F0 m 33 ls [.int 7, .int 5]) (by rw [hw76]) ?_
  refine lv_icmp_ge (tgt := 69) hx hb dX4_isStuckShown_33 (by decide) (fun cz => absurd cz (by decide)) (fun _ => ?_)
  refine lv_aload_n hx hb dX4_isStuckShown_36 rfl (lv_at hl 2 rfl) ?_
  refine va_get (D := (dC, dI)) (ci := 4) (v := .ref h2) (C := RX4) (T := TX4) (N := 3) hx hb hts in_X4 hown hK hP 0 rfl rfl 0 (by decide) (hts _ q_50) (fun _ h9 => h9) rfl dX4_isStuckShown_37 ?_
  refine va_get (D := (dC, dI)) (ci := 2) (v := .ref h3) (C := RX0) (T := TX0) (N := 4) hx hb hts in_X0 hown hK hP 2 rfl rfl 0 (by decide) (hts _ q_399) (fun _ h9 => h9) rfl dX4_isStuckShown_40 ?_
  refine lv_iload hx hb dX4_isStuckShown_43 (lv_at hl 0 rfl) ?_
  have hM80 := k652_get l hl9 dC dI z h3 h6 h1 h9 h10 h11 h12 h13 h14 H76.size kc0
  obtain ⟨hF78, hC81⟩ := pc_M hM80 hP hD hK hS hX hT hA [3, 6] [0] rfl rfl rfl
  refine va_callr (va_runV (As := [.int 5]) (rest := []) ⟨hx, hb, hml, hown, hts⟩ hM80 (cwV 1 hts (gV q_383 q_157 q_158 q_12 q_155) rfl rfl rfl hV_Jx4a65c_get_915e3 ⟨Nat.le_of_ble_eq_true rfl, Nat.le_of_ble_eq_true rfl⟩) ⟨pc_blind, va_recv hK hP (ci := 0) (q := (RJx4a65c, TJx4a65c, 3)) (q0 := 3) rfl rfl, fun U hU hW => ⟨rfl, hC81 U hU hW⟩⟩ rfl rfl hl.1 rfl (lv_room (Nat.le_of_ble_eq_true rfl)) dX4_isStuckShown_45 ⟨(Nat.le_of_ble_eq_true rfl), (Nat.le_of_ble_eq_true rfl)⟩) hS (fun q9 _ h9 => hF78 q9 h9) hF78 (fun u82 r83 t82 H82 L82 ht82 hvm82 hw82 hB82 hz82 hk82 hS => ?_)
  obtain ⟨hr82, hB82⟩ := hB82
  have hP := pq_keep hP hD [3, 6] rfl hk82 hB82.1 ht82
  have hG : s.heap.size + 0 ≤ H82.size := Nat.le_trans hG hz82
  refine W.eq (g2 := F0 m 48 ls [.ref h13]) (by rw [hr82]) ?_
  refine va_castE (nm := RX2) hx hb hown (hts _ q_384) (va_recv hK hP (ci := 3) (q := (RX2, TX2, 19)) (q0 := 13) rfl rfl) dX4_isStuckShown_48 ?_
  refine lv_astore (lv' := [(5, .ref h13), (4, .int 5), (0, .ref h0), (1, .ref h1), (2, .int 49), (3, .int 0)]) hx hb dX4_isStuckShown_51 hl (by decide) rfl (fun ls hl => ?_)
  refine lv_aload hx hb dX4_isStuckShown_53 (lv_at hl 0 rfl) ?_
  refine lv_aload hx hb dX4_isStuckShown_55 (lv_at hl 0 rfl) ?_
  refine va_get (D := (dC, dI)) (ci := 3) (v := .int 48) (C := RX2) (T := TX2) (N := 19) hx hb hts in_X2 hown hK hP 13 rfl rfl 11 (by decide) (hts _ q_385) (fun _ h9 => h9) rfl dX4_isStuckShown_57 ?_
  refine va_put (D := (dC, dI)) (ci := 3) (v := .int 48) (ty := .char) (C := RX2) (T := TX2) (N := 19) hx hb hts in_X2 tyX2 tyX2_ok nmX2 hown hK hP hD (va_Sre hS) 13 rfl rfl 12 (by decide) (hts _ q_400) (fun _ h9 => h9) rfl (by decide +kernel) rfl rfl (Nat.le_of_ble_eq_true rfl) dX4_isStuckShown_60 (fun H84 _ hP hD hS' => ?_)
  have hG : s.heap.size + 0 ≤ H84.size := Nat.le_trans hG hS'.1
  have hS := va_Str hS hS'
  have hP : va_P (dC, dI) xCl [(h0, ce417 h2 o0), (h1, ce427 (z.2.1 0) o1 h1), (h2, ce7 h3 h4 o2 h5), (h3, ce331 h6), (h4, ce331 h7), (h5, ce366 h8), (h6, ce330 kc0 h1 h9 h10 h11 h12 h13 h14), (h7, ce330 kc1 h1 h9 h10 h11 h12 h13 h14), (h8, ce330 kc2 h1 h9 h10 h11 h12 h13 h14), (h9, ce428 (z.2.1 0) o3 h9), (h10, ce429 (z.2.1 0) o4 h10), (h11, ce430 (z.2.1 0) o5 h11), (h12, ce431 (z.2.1 0) o6 h12), (h13, ce432 (z.2.1 0) o7 h13), (h14, ce433 (z.2.1 0) o8 h14)] H84 := hP
  have hD := vd_as hP hD rfl
  refine lv_iinc (v := 6) (lv' := [(4, .int 6), (5, .ref h13), (0, .ref h0), (1, .ref h1), (2, .int 49), (3, .int 0)]) hx hb dX4_isStuckShown_63 hl (k := 1) rfl (by decide) (by decide) rfl (fun ls hl => ?_)
  refine lv_goto (tgt := 21) hx hb dX4_isStuckShown_66 (by decide) ?_
  refine lv_iload hx hb dX4_isStuckShown_21 (lv_at hl 0 rfl) ?_
  refine lv_aload_n hx hb dX4_isStuckShown_23 rfl (lv_at hl 2 rfl) ?_
  refine va_get (D := (dC, dI)) (ci := 4) (v := .ref h2) (C := RX4) (T := TX4) (N := 3) hx hb hts in_X4 hown hK hP 0 rfl rfl 0 (by decide) (hts _ q_50) (fun _ h9 => h9) rfl dX4_isStuckShown_24 ?_
  refine va_get (D := (dC, dI)) (ci := 2) (v := .ref h3) (C := RX0) (T := TX0) (N := 4) hx hb hts in_X0 hown hK hP 2 rfl rfl 0 (by decide) (hts _ q_399) (fun _ h9 => h9) rfl dX4_isStuckShown_27 ?_
  have hM87 := k20_size l hl9 dC dI z h3 h6 H84.size 7 7
  obtain ⟨hF85, hC88⟩ := pc_M hM87 hP hD hK hS hX hT hA [3] [] rfl rfl rfl
  refine va_calli (va_runV (As := []) (rest := [.int 6]) ⟨hx, hb, hml, hown, hts⟩ hM87 (cwV 0 hts (gV q_348 q_77 q_78 q_12 q_75) rfl rfl rfl hV_Jx4a65c_size_8abf5 ⟨Nat.le_of_ble_eq_true rfl, Nat.le_of_ble_eq_true rfl⟩) ⟨pc_blind, va_recv hK hP (ci := 0) (q := (RJx4a65c, TJx4a65c, 3)) (q0 := 3) rfl rfl, fun U hU hW => ⟨rfl, hC88 U hU hW⟩⟩ rfl rfl hl.1 rfl (lv_room (Nat.le_of_ble_eq_true rfl)) dX4_isStuckShown_30 ⟨(Nat.le_of_ble_eq_true rfl), (Nat.le_of_ble_eq_true rfl)⟩) hS (fun q9 _ h9 => hF85 q9 h9) hF85 (fun r90 u89 t89 H89 L89 ht89 hvm89 hw89 hB89 hz89 hk89 hS => ?_)
  have hP := pq_keep hP hD [3] rfl hk89 hB89.1 ht89
  have hG : s.heap.size + 0 ≤ H89.size := Nat.le_trans hG hz89
  refine W.eq (g2 := F0 m 33 ls [.int 7, .int 6]) (by rw [hw89]) ?_
  refine lv_icmp_ge (tgt := 69) hx hb dX4_isStuckShown_33 (by decide) (fun cz => absurd cz (by decide)) (fun _ => ?_)
  refine lv_aload_n hx hb dX4_isStuckShown_36 rfl (lv_at hl 2 rfl) ?_
  refine va_get (D := (dC, dI)) (ci := 4) (v := .ref h2) (C := RX4) (T := TX4) (N := 3) hx hb hts in_X4 hown hK hP 0 rfl rfl 0 (by decide) (hts _ q_50) (fun _ h9 => h9) rfl dX4_isStuckShown_37 ?_
  refine va_get (D := (dC, dI)) (ci := 2) (v := .ref h3) (C := RX0) (T := TX0) (N := 4) hx hb hts in_X0 hown hK hP 2 rfl rfl 0 (by decide) (hts _ q_399) (fun _ h9 => h9) rfl dX4_isStuckShown_40 ?_
  refine lv_iload hx hb dX4_isStuckShown_43 (lv_at hl 0 rfl) ?_
  have hM93 := k656_get l hl9 dC dI z h3 h6 h1 h9 h10 h11 h12 h13 h14 H89.size kc0
  obtain ⟨hF91, hC94⟩ := pc_M hM93 hP hD hK hS hX hT hA [3, 6] [0] rfl rfl rfl
  refine va_callr (va_runV (As := [.int 6]) (rest := []) ⟨hx, hb, hml, hown, hts⟩ hM93 (cwV 1 hts (gV q_383 q_157 q_158 q_12 q_155) rfl rfl rfl hV_Jx4a65c_get_915e3 ⟨Nat.le_of_ble_eq_true rfl, Nat.le_of_ble_eq_true rfl⟩) ⟨pc_blind, va_recv hK hP (ci := 0) (q := (RJx4a65c, TJx4a65c, 3)) (q0 := 3) rfl rfl, fun U hU hW => ⟨rfl, hC94 U hU hW⟩⟩ rfl rfl hl.1 rfl (lv_room (Nat.le_of_ble_eq_true rfl)) dX4_isStuckShown_45 ⟨(Nat.le_of_ble_eq_true rfl), (Nat.le_of_ble_eq_true rfl)⟩) hS (fun q9 _ h9 => hF91 q9 h9) hF91 (fun u95 r96 t95 H95 L95 ht95 hvm95 hw95 hB95 hz95 hk95 hS => ?_)
  obtain ⟨hr95, hB95⟩ := hB95
  have hP := pq_keep hP hD [3, 6] rfl hk95 hB95.1 ht95
  have hG : s.heap.size + 0 ≤ H95.size := Nat.le_trans hG hz95
  refine W.eq (g2 := F0 m 48 ls [.ref h14]) (by rw [hr95]) ?_
  refine va_castE (nm := RX2) hx hb hown (hts _ q_384) (va_recv hK hP (ci := 3) (q := (RX2, TX2, 19)) (q0 := 14) rfl rfl) dX4_isStuckShown_48 ?_
  refine lv_astore (lv' := [(5, .ref h14), (4, .int 6), (0, .ref h0), (1, .ref h1), (2, .int 49), (3, .int 0)]) hx hb dX4_isStuckShown_51 hl (by decide) rfl (fun ls hl => ?_)
  refine lv_aload hx hb dX4_isStuckShown_53 (lv_at hl 0 rfl) ?_
  refine lv_aload hx hb dX4_isStuckShown_55 (lv_at hl 0 rfl) ?_
  refine va_get (D := (dC, dI)) (ci := 3) (v := .int 48) (C := RX2) (T := TX2) (N := 19) hx hb hts in_X2 hown hK hP 14 rfl rfl 11 (by decide) (hts _ q_385) (fun _ h9 => h9) rfl dX4_isStuckShown_57 ?_
  refine va_put (D := (dC, dI)) (ci := 3) (v := .int 48) (ty := .char) (C := RX2) (T := TX2) (N := 19) hx hb hts in_X2 tyX2 tyX2_ok nmX2 hown hK hP hD (va_Sre hS) 14 rfl rfl 12 (by decide) (hts _ q_400) (fun _ h9 => h9) rfl (by decide +kernel) rfl rfl (Nat.le_of_ble_eq_true rfl) dX4_isStuckShown_60 (fun H97 _ hP hD hS' => ?_)
  have hG : s.heap.size + 0 ≤ H97.size := Nat.le_trans hG hS'.1
  have hS := va_Str hS hS'
  have hP : va_P (dC, dI) xCl [(h0, ce417 h2 o0), (h1, ce427 (z.2.1 0) o1 h1), (h2, ce7 h3 h4 o2 h5), (h3, ce331 h6), (h4, ce331 h7), (h5, ce366 h8), (h6, ce330 kc0 h1 h9 h10 h11 h12 h13 h14), (h7, ce330 kc1 h1 h9 h10 h11 h12 h13 h14), (h8, ce330 kc2 h1 h9 h10 h11 h12 h13 h14), (h9, ce428 (z.2.1 0) o3 h9), (h10, ce429 (z.2.1 0) o4 h10), (h11, ce430 (z.2.1 0) o5 h11), (h12, ce431 (z.2.1 0) o6 h12), (h13, ce432 (z.2.1 0) o7 h13), (h14, ce433 (z.2.1 0) o8 h14)] H97 := hP
  have hD := vd_as hP hD rfl
  refine lv_iinc (v := 7) (lv' := [(4, .int 7), (5, .ref h14), (0, .ref h0), (1, .ref h1), (2, .int 49), (3, .int 0)]) hx hb dX4_isStuckShown_63 hl (k := 1) rfl (by decide) (by decide) rfl (fun ls hl => ?_)
  refine lv_goto (tgt := 21) hx hb dX4_isStuckShown_66 (by decide) ?_
  refine lv_iload hx hb dX4_isStuckShown_21 (lv_at hl 0 rfl) ?_
  refine lv_aload_n hx hb dX4_isStuckShown_23 rfl (lv_at hl 2 rfl) ?_
  refine va_get (D := (dC, dI)) (ci := 4) (v := .ref h2) (C := RX4) (T := TX4) (N := 3) hx hb hts in_X4 hown hK hP 0 rfl rfl 0 (by decide) (hts _ q_50) (fun _ h9 => h9) rfl dX4_isStuckShown_24 ?_
  refine va_get (D := (dC, dI)) (ci := 2) (v := .ref h3) (C := RX0) (T := TX0) (N := 4) hx hb hts in_X0 hown hK hP 2 rfl rfl 0 (by decide) (hts _ q_399) (fun _ h9 => h9) rfl dX4_isStuckShown_27 ?_
  have hM100 := k20_size l hl9 dC dI z h3 h6 H97.size 7 7
  obtain ⟨hF98, hC101⟩ := pc_M hM100 hP hD hK hS hX hT hA [3] [] rfl rfl rfl
  refine va_calli (va_runV (As := []) (rest := [.int 7]) ⟨hx, hb, hml, hown, hts⟩ hM100 (cwV 0 hts (gV q_348 q_77 q_78 q_12 q_75) rfl rfl rfl hV_Jx4a65c_size_8abf5 ⟨Nat.le_of_ble_eq_true rfl, Nat.le_of_ble_eq_true rfl⟩) ⟨pc_blind, va_recv hK hP (ci := 0) (q := (RJx4a65c, TJx4a65c, 3)) (q0 := 3) rfl rfl, fun U hU hW => ⟨rfl, hC101 U hU hW⟩⟩ rfl rfl hl.1 rfl (lv_room (Nat.le_of_ble_eq_true rfl)) dX4_isStuckShown_30 ⟨(Nat.le_of_ble_eq_true rfl), (Nat.le_of_ble_eq_true rfl)⟩) hS (fun q9 _ h9 => hF98 q9 h9) hF98 (fun r103 u102 t102 H102 L102 ht102 hvm102 hw102 hB102 hz102 hk102 hS => ?_)
  have hP := pq_keep hP hD [3] rfl hk102 hB102.1 ht102
  have hG : s.heap.size + 0 ≤ H102.size := Nat.le_trans hG hz102
  refine W.eq (g2 := F0 m 33 ls [.int 7, .int 7]) (by rw [hw102]) ?_
  refine lv_icmp_ge (tgt := 69) hx hb dX4_isStuckShown_33 (by decide) (fun _ => ?_) (fun cz => absurd (by decide) cz)
  refine lv_aload_n hx hb dX4_isStuckShown_69 rfl (lv_at hl 2 rfl) ?_
  refine lv_iload_n hx hb dX4_isStuckShown_70 rfl (lv_at hl 5 rfl) ?_
  refine lv_aload_n hx hb dX4_isStuckShown_71 rfl (lv_at hl 3 rfl) ?_
  refine lv_iload_n hx hb dX4_isStuckShown_72 rfl (lv_at hl 4 rfl) ?_
  have hM106 := k856_tryRow l hl9 dC dI z h0 h1 h2 h4 h5 h7 h8 h9 h10 h11 h12 h13 h14 o0 o1 h3 o2 o3 o4 o5 o6 o7 o8 H102.size kc1 kc2
  obtain ⟨hF104, hC107⟩ := pc_M hM106 hP hD hK hS hX hT hA [0, 1, 2, 4, 5, 7, 8, 9, 10, 11, 12, 13, 14] [1, 2] rfl rfl rfl
  refine va_callv (va_runV (As := [.int 0, .ref h1, .int 49]) (rest := []) ⟨hx, hb, hml, hown, hts⟩ hM106 (cwV 3 hts (gV q_388 q_389 q_390 q_46 q_387) rfl rfl rfl hV_X4_tryRow ⟨Nat.le_of_ble_eq_true rfl, Nat.le_of_ble_eq_true rfl⟩) ⟨pc_blind, va_recv hK hP (ci := 4) (q := (RX4, TX4, 3)) (q0 := 0) rfl rfl, fun U hU hW => ⟨rfl, hC107 U hU hW⟩⟩ rfl rfl hl.1 rfl (lv_room (Nat.le_of_ble_eq_true rfl)) dX4_isStuckShown_73 ⟨(Nat.le_of_ble_eq_true rfl), (Nat.le_of_ble_eq_true rfl)⟩) hS (fun q9 _ h9 => hF104 q9 h9) hF104 (fun u108 t108 H108 L108 ht108 hvm108 hw108 hB108 hz108 hk108 hS => ?_)
  obtain ⟨hP, hD, hK⟩ := pq_jn (wz := [(h3, ce331 h6), (h6, ce330 kc0 h1 h9 h10 h11 h12 h13 h14), (h0, ce417 h2 o0), (h1, ce434 (z.2.1 0) o1 h1), (h2, ce7 h3 h4 o2 h5), (h4, ce331 h7), (h5, ce366 h8), (h7, ce330 kc1 h1 h9 h10 h11 h12 h13 h14), (h8, ce330 kc2 h1 h9 h10 h11 h12 h13 h14), (h9, ce428 (z.2.1 0) o3 h9), (h10, ce429 (z.2.1 0) o4 h10), (h11, ce430 (z.2.1 0) o5 h11), (h12, ce431 (z.2.1 0) o6 h12), (h13, ce432 (z.2.1 0) o7 h13), (h14, ce433 (z.2.1 0) o8 h14)]) (tz := [(kc0, .object "java/lang/Object"), (kc1, .object "java/lang/Object"), (kc2, .object "java/lang/Object")]) hP hD hK [0, 1, 2, 4, 5, 7, 8, 9, 10, 11, 12, 13, 14] [0] rfl hk108 hF104 hB108.1 ht108 hvm108 rfl rfl
  have hG : s.heap.size + 0 ≤ H108.size := Nat.le_trans hG hz108
  refine lv_aload_n hx hb dX4_isStuckShown_76 rfl (lv_at hl 2 rfl) ?_
  have hM112 := k866_isDifferenceWatched l hl9 dC dI z h0 h2 h3 h6 h1 h9 h10 h11 h12 h13 h14 o0 h4 o2 h5 o1 o3 o4 o5 o6 o7 o8 H108.size kc0
  obtain ⟨hF110, hC113⟩ := pc_M hM112 hP hD hK hS hX hT hA [2, 4, 0, 1, 3, 9, 10, 11, 12, 13, 14] [0] rfl rfl rfl
  refine va_calli (va_runV (As := []) (rest := []) ⟨hx, hb, hml, hown, hts⟩ hM112 (cwV 0 hts (gV q_411 q_412 q_413 q_46 q_410) rfl rfl rfl hV_X4_isDifferenceWatched ⟨Nat.le_of_ble_eq_true rfl, Nat.le_of_ble_eq_true rfl⟩) ⟨pc_blind, va_recv hK hP (ci := 4) (q := (RX4, TX4, 3)) (q0 := 2) rfl rfl, fun U hU hW => ⟨rfl, hC113 U hU hW⟩⟩ rfl rfl hl.1 rfl (lv_room (Nat.le_of_ble_eq_true rfl)) dX4_isStuckShown_77 ⟨(Nat.le_of_ble_eq_true rfl), (Nat.le_of_ble_eq_true rfl)⟩) hS (fun q9 _ h9 => hF110 q9 h9) hF110 (fun r115 u114 t114 H114 L114 ht114 hvm114 hw114 hB114 hz114 hk114 hS => ?_)
  have hP := pq_keep hP hD [2, 4, 0, 1, 3, 9, 10, 11, 12, 13, 14] rfl hk114 hB114.1 ht114
  have hG : s.heap.size + 0 ≤ H114.size := Nat.le_trans hG hz114
  refine W.eq (g2 := F0 m 80 ls [.int 0]) (by rw [hw114]) ?_
  exact W.zret (v := 0) (ty := .boolean) hx hb hr rfl (fun t9 ht9 hW9 => ⟨⟨0, (), rfl, rfl, ⟨pq_mk2 hP hD hK [2, 3, 4, 0, 5, 6, 1, 7, 8, 9, 10, 11, 12, 13, 14] [0, 1, 2] rfl rfl rfl ht9 hW9, by rw [ht9]; exact Nat.le_trans (Nat.add_le_add_left (Nat.le_of_ble_eq_true rfl) _) hG⟩⟩, hS.F ht9⟩) hS.2.2 dX4_isStuckShown_80

set_option maxHeartbeats 4000000 in
set_option maxRecDepth 100000 in
theorem k991_isShownBySomeTest (l : Launch) (hl9 : l.stackTraces = false) (dC : Nat → ClassId) (dI : Nat → Nat → Nat) (z : XZ) (h0 h1 h2 h3 h4 h5 h6 h7 h8 h9 h10 h11 h12 h13 h14 h15 : Nat) (o0 o1 o2 o3 o4 o5 o6 o7 : Nat) (sz : Nat) (kc0 kc1 kc2 kc3 : ClassId) : Met l yX4_isShownBySomeTest (.code yX4_isShownBySomeTest cX4_isShownBySomeTest 4 (some .boolean) :: wsL_law) ({ frames := 6, cells := 0, slots := 0, locals := 137 }) (va_Pc [.ref h0, .ref h1, .int 49] (PC (dC, dI) [(h0, ce417 h2 h3), (h1, ce427 (z.2.1 0) o0 h1), (h2, ce7 h4 h5 o1 h6), (h3, ce416 kc0), (h4, ce331 h7), (h5, ce331 h8), (h6, ce366 h9), (h7, ce330 kc1 h1 h10 h11 h12 h13 h14 h15), (h8, ce330 kc2 h1 h10 h11 h12 h13 h14 h15), (h9, ce330 kc3 h1 h10 h11 h12 h13 h14 h15), (h10, ce428 (z.2.1 0) o2 h10), (h11, ce429 (z.2.1 0) o3 h11), (h12, ce430 (z.2.1 0) o4 h12), (h13, ce431 (z.2.1 0) o5 h13), (h14, ce432 (z.2.1 0) o6 h14), (h15, ce433 (z.2.1 0) o7 h15)] [(kc0, .int), (kc1, .object "java/lang/Object"), (kc2, .object "java/lang/Object"), (kc3, .object "java/lang/Object")] sz z)) (va_Qi (fun (r : Int32) (_ : Unit) => r = 0) (fun (_ : Unit) (t : State) => PG (dC, dI) [(h0, ce417 h2 h3), (h1, ce434 (z.2.1 0) o0 h1), (h2, ce7 h4 h5 o1 h6), (h3, ce416 kc0), (h4, ce331 h7), (h5, ce331 h8), (h6, ce366 h9), (h7, ce330 kc1 h1 h10 h11 h12 h13 h14 h15), (h8, ce330 kc2 h1 h10 h11 h12 h13 h14 h15), (h9, ce330 kc3 h1 h10 h11 h12 h13 h14 h15), (h10, ce428 (z.2.1 0) o2 h10), (h11, ce429 (z.2.1 0) o3 h11), (h12, ce430 (z.2.1 0) o4 h12), (h13, ce431 (z.2.1 0) o5 h13), (h14, ce432 (z.2.1 0) o6 h14), (h15, ce433 (z.2.1 0) o7 h15)] [(kc0, .int), (kc1, .object "java/lang/Object"), (kc2, .object "java/lang/Object"), (kc3, .object "java/lang/Object")] (va_A [(h0, ce417 h2 h3), (h1, ce427 (z.2.1 0) o0 h1), (h2, ce7 h4 h5 o1 h6), (h3, ce416 kc0), (h4, ce331 h7), (h5, ce331 h8), (h6, ce366 h9), (h7, ce330 kc1 h1 h10 h11 h12 h13 h14 h15), (h8, ce330 kc2 h1 h10 h11 h12 h13 h14 h15), (h9, ce330 kc3 h1 h10 h11 h12 h13 h14 h15), (h10, ce428 (z.2.1 0) o2 h10), (h11, ce429 (z.2.1 0) o3 h11), (h12, ce430 (z.2.1 0) o4 h12), (h13, ce431 (z.2.1 0) o5 h13), (h14, ce432 (z.2.1 0) o6 h14), (h15, ce433 (z.2.1 0) o7 h15)] sz) sz 0 t) (va_A [(h0, ce417 h2 h3), (h1, ce427 (z.2.1 0) o0 h1), (h2, ce7 h4 h5 o1 h6), (h3, ce416 kc0), (h4, ce331 h7), (h5, ce331 h8), (h6, ce366 h9), (h7, ce330 kc1 h1 h10 h11 h12 h13 h14 h15), (h8, ce330 kc2 h1 h10 h11 h12 h13 h14 h15), (h9, ce330 kc3 h1 h10 h11 h12 h13 h14 h15), (h10, ce428 (z.2.1 0) o2 h10), (h11, ce429 (z.2.1 0) o3 h11), (h12, ce430 (z.2.1 0) o4 h12), (h13, ce431 (z.2.1 0) o5 h13), (h14, ce432 (z.2.1 0) o6 h14), (h15, ce433 (z.2.1 0) o7 h15)] sz)) 0 0 (va_A [(h0, ce417 h2 h3), (h1, ce427 (z.2.1 0) o0 h1), (h2, ce7 h4 h5 o1 h6), (h3, ce416 kc0), (h4, ce331 h7), (h5, ce331 h8), (h6, ce366 h9), (h7, ce330 kc1 h1 h10 h11 h12 h13 h14 h15), (h8, ce330 kc2 h1 h10 h11 h12 h13 h14 h15), (h9, ce330 kc3 h1 h10 h11 h12 h13 h14 h15), (h10, ce428 (z.2.1 0) o2 h10), (h11, ce429 (z.2.1 0) o3 h11), (h12, ce430 (z.2.1 0) o4 h12), (h13, ce431 (z.2.1 0) o5 h13), (h14, ce432 (z.2.1 0) o6 h14), (h15, ce433 (z.2.1 0) o7 h15)] sz) := by
  refine Met.ofW (cc := cX4_isShownBySomeTest) (maxL := 4) (ret := (some .boolean)) (by decide) rfl ?_
  intro p e s m args below meth c s₁ B hml hv
  obtain ⟨rfl, hsz, hP, hK, hD0, hX, hT⟩ := hv
  have hx := B.exec
  have hb := B.bytes
  have hr := B.returns
  have hts0 := atoms_spec (ws := .code yX4_isShownBySomeTest cX4_isShownBySomeTest 4 (some .boolean) :: wsL_law) B.pre
  have hts := xTail hts0
  have hown : s.vm.findClass RX4 = some m.cls := xown B.named rfl
  have hlocks := B.notSynchronized
  subst hsz
  have hD := hD0.self (sz := s.heap.size)
  generalize hAe : va_A [(h0, ce417 h2 h3), (h1, ce427 (z.2.1 0) o0 h1), (h2, ce7 h4 h5 o1 h6), (h3, ce416 kc0), (h4, ce331 h7), (h5, ce331 h8), (h6, ce366 h9), (h7, ce330 kc1 h1 h10 h11 h12 h13 h14 h15), (h8, ce330 kc2 h1 h10 h11 h12 h13 h14 h15), (h9, ce330 kc3 h1 h10 h11 h12 h13 h14 h15), (h10, ce428 (z.2.1 0) o2 h10), (h11, ce429 (z.2.1 0) o3 h11), (h12, ce430 (z.2.1 0) o4 h12), (h13, ce431 (z.2.1 0) o5 h13), (h14, ce432 (z.2.1 0) o6 h14), (h15, ce433 (z.2.1 0) o7 h15)] s.heap.size = A at hD hX ⊢
  have hA : ∀ q : Nat, s.heap.size ≤ q → A q := fun q h => by rw [← hAe]; exact Or.inr h
  have hS : va_S A s.heap s.heap [] := va_S.rf
  have hG : s.heap.size + 0 ≤ s.heap.size := Nat.le_refl _
  have hl := lv_entry ([.ref h0, .ref h1, .int 49]) (n := 4) (Nat.le_of_ble_eq_true rfl)
  rw [lg_entry_eq]
  generalize (lg_sl ([.ref h0, .ref h1, .int 49]) ++ List.replicate (4 - (lg_sl ([.ref h0, .ref h1, .int 49])).length) Slot.unset).toArray = ls at hl ⊢
  have hl : lv_has ls 4 [(0, .ref h0), (1, .ref h1), (2, .int 49)] := hl
  refine lv_iconst (v := 0) hx hb dX4_isShownBySomeTest_0 (by decide) ?_
  refine lv_istore_n (lv' := [(3, .int 0), (0, .ref h0), (1, .ref h1), (2, .int 49)]) hx hb dX4_isShownBySomeTest_1 rfl hl (by decide) rfl (fun ls hl => ?_)
  refine lv_iload_n hx hb dX4_isShownBySomeTest_2 rfl (lv_at hl 0 rfl) ?_
  refine lv_aload_n hx hb dX4_isShownBySomeTest_3 rfl (lv_at hl 1 rfl) ?_
  refine va_get (D := (dC, dI)) (ci := 4) (v := .int 7) (C := RX4) (T := TX4) (N := 3) hx hb hts in_X4 hown hK hP 0 rfl rfl 2 (by decide) (hts _ q_358) (fun _ h9 => h9) rfl dX4_isShownBySomeTest_4 ?_
  refine lv_icmp_ge (tgt := 42) hx hb dX4_isShownBySomeTest_7 (by decide) (fun cz => absurd cz (by decide)) (fun _ => ?_)
  refine lv_iload_n hx hb dX4_isShownBySomeTest_10 rfl (lv_at hl 0 rfl) ?_
  refine lv_aload_n hx hb dX4_isShownBySomeTest_11 rfl (lv_at hl 1 rfl) ?_
  refine va_get (D := (dC, dI)) (ci := 4) (v := .ref h3) (C := RX4) (T := TX4) (N := 3) hx hb hts in_X4 hown hK hP 0 rfl rfl 1 (by decide) (hts _ q_49) (fun _ h9 => h9) rfl dX4_isShownBySomeTest_12 ?_
  refine va_alen hx hb hK hP 3 0 rfl rfl (v := 8) rfl dX4_isShownBySomeTest_15 ?_
  refine lv_icmp_ge (tgt := 42) hx hb dX4_isShownBySomeTest_16 (by decide) (fun cz => absurd cz (by decide)) (fun _ => ?_)
  refine lv_aload_n hx hb dX4_isShownBySomeTest_19 rfl (lv_at hl 1 rfl) ?_
  refine lv_aload_n hx hb dX4_isShownBySomeTest_20 rfl (lv_at hl 2 rfl) ?_
  refine lv_iload_n hx hb dX4_isShownBySomeTest_21 rfl (lv_at hl 3 rfl) ?_
  refine lv_aload_n hx hb dX4_isShownBySomeTest_22 rfl (lv_at hl 1 rfl) ?_
  refine va_get (D := (dC, dI)) (ci := 4) (v := .ref h3) (C := RX4) (T := TX4) (N := 3) hx hb hts in_X4 hown hK hP 0 rfl rfl 1 (by decide) (hts _ q_49) (fun _ h9 => h9) rfl dX4_isShownBySomeTest_23 ?_
  refine lv_iload_n hx hb dX4_isShownBySomeTest_26 rfl (lv_at hl 0 rfl) ?_
  refine va_iald hx hb hK hP 3 0 rfl rfl (i := 0) (by unfold vp_in; decide) dX4_isShownBySomeTest_27 ?_
  refine W.eq (g2 := F0 m 28 ls [.int 0, .int 49, .ref h1, .ref h0]) rfl ?_
  have hM3 := k990_isStuckShown l hl9 dC dI z h0 h1 h2 h4 h5 h6 h7 h8 h9 h10 h11 h12 h13 h14 h15 h3 o0 o1 o2 o3 o4 o5 o6 o7 s.heap.size kc1 kc2 kc3
  obtain ⟨hF1, hC4⟩ := pc_M hM3 hP hD hK hS hX hT hA [0, 1, 2, 4, 5, 6, 7, 8, 9, 10, 11, 12, 13, 14, 15] [1, 2, 3] rfl rfl rfl
  refine va_calli (va_runV (As := [.ref h1, .int 49, .int 0]) (rest := []) ⟨hx, hb, hml, hown, hts⟩ hM3 (cwV 3 hts (gV q_392 q_393 q_394 q_46 q_391) rfl rfl rfl hV_X4_isStuckShown ⟨Nat.le_of_ble_eq_true rfl, Nat.le_of_ble_eq_true rfl⟩) ⟨pc_blind, va_recv hK hP (ci := 4) (q := (RX4, TX4, 3)) (q0 := 0) rfl rfl, fun U hU hW => ⟨rfl, hC4 U hU hW⟩⟩ rfl rfl hl.1 rfl (lv_room (Nat.le_of_ble_eq_true rfl)) dX4_isShownBySomeTest_28 ⟨(Nat.le_of_ble_eq_true rfl), (Nat.le_of_ble_eq_true rfl)⟩) hS (fun q9 _ h9 => hF1 q9 h9) hF1 (fun r6 u5 t5 H5 L5 ht5 hvm5 hw5 hB5 hz5 hk5 hS => ?_)
  obtain ⟨hP, hD, hK⟩ := pq_jn (wz := [(h3, ce416 kc0), (h0, ce417 h2 h3), (h1, ce434 (z.2.1 0) o0 h1), (h2, ce7 h4 h5 o1 h6), (h4, ce331 h7), (h5, ce331 h8), (h6, ce366 h9), (h7, ce330 kc1 h1 h10 h11 h12 h13 h14 h15), (h8, ce330 kc2 h1 h10 h11 h12 h13 h14 h15), (h9, ce330 kc3 h1 h10 h11 h12 h13 h14 h15), (h10, ce428 (z.2.1 0) o2 h10), (h11, ce429 (z.2.1 0) o3 h11), (h12, ce430 (z.2.1 0) o4 h12), (h13, ce431 (z.2.1 0) o5 h13), (h14, ce432 (z.2.1 0) o6 h14), (h15, ce433 (z.2.1 0) o7 h15)]) (tz := [(kc0, .int), (kc1, .object "java/lang/Object"), (kc2, .object "java/lang/Object"), (kc3, .object "java/lang/Object")]) hP hD hK [0, 1, 2, 4, 5, 6, 7, 8, 9, 10, 11, 12, 13, 14, 15] [0] rfl hk5 hF1 hB5.1 ht5 hvm5 rfl rfl
  have hG : s.heap.size + 0 ≤ H5.size := Nat.le_trans hG hz5
  refine W.eq (g2 := F0 m 31 ls [.int 0]) (by rw [hw5]) ?_
  refine lv_if_eq (tgt := 36) hx hb dX4_isShownBySomeTest_31 (by decide) (fun _ => ?_) (fun cz => absurd (by decide) cz)
  refine lv_iinc (v := 1) (lv' := [(3, .int 1), (0, .ref h0), (1, .ref h1), (2, .int 49)]) hx hb dX4_isShownBySomeTest_36 hl (k := 0) rfl (by decide) (by decide) rfl (fun ls hl => ?_)
  refine lv_goto (tgt := 2) hx hb dX4_isShownBySomeTest_39 (by decide) ?_
  refine lv_iload_n hx hb dX4_isShownBySomeTest_2 rfl (lv_at hl 0 rfl) ?_
  refine lv_aload_n hx hb dX4_isShownBySomeTest_3 rfl (lv_at hl 1 rfl) ?_
  refine va_get (D := (dC, dI)) (ci := 4) (v := .int 7) (C := RX4) (T := TX4) (N := 3) hx hb hts in_X4 hown hK hP 1 rfl rfl 2 (by decide) (hts _ q_358) (fun _ h9 => h9) rfl dX4_isShownBySomeTest_4 ?_
  refine lv_icmp_ge (tgt := 42) hx hb dX4_isShownBySomeTest_7 (by decide) (fun cz => absurd cz (by decide)) (fun _ => ?_)
  refine lv_iload_n hx hb dX4_isShownBySomeTest_10 rfl (lv_at hl 0 rfl) ?_
  refine lv_aload_n hx hb dX4_isShownBySomeTest_11 rfl (lv_at hl 1 rfl) ?_
  refine va_get (D := (dC, dI)) (ci := 4) (v := .ref h3) (C := RX4) (T := TX4) (N := 3) hx hb hts in_X4 hown hK hP 1 rfl rfl 1 (by decide) (hts _ q_49) (fun _ h9 => h9) rfl dX4_isShownBySomeTest_12 ?_
  refine va_alen hx hb hK hP 0 0 rfl rfl (v := 8) rfl dX4_isShownBySomeTest_15 ?_
  refine lv_icmp_ge (tgt := 42) hx hb dX4_isShownBySomeTest_16 (by decide) (fun cz => absurd cz (by decide)) (fun _ => ?_)
  refine lv_aload_n hx hb dX4_isShownBySomeTest_19 rfl (lv_at hl 1 rfl) ?_
  refine lv_aload_n hx hb dX4_isShownBySomeTest_20 rfl (lv_at hl 2 rfl) ?_
  refine lv_iload_n hx hb dX4_isShownBySomeTest_21 rfl (lv_at hl 3 rfl) ?_
  refine lv_aload_n hx hb dX4_isShownBySomeTest_22 rfl (lv_at hl 1 rfl) ?_
  refine va_get (D := (dC, dI)) (ci := 4) (v := .ref h3) (C := RX4) (T := TX4) (N := 3) hx hb hts in_X4 hown hK hP 1 rfl rfl 1 (by decide) (hts _ q_49) (fun _ h9 => h9) rfl dX4_isShownBySomeTest_23 ?_
  refine lv_iload_n hx hb dX4_isShownBySomeTest_26 rfl (lv_at hl 0 rfl) ?_
  refine va_iald hx hb hK hP 0 0 rfl rfl (i := 1) (by unfold vp_in; decide) dX4_isShownBySomeTest_27 ?_
  refine W.eq (g2 := F0 m 28 ls [.int 0, .int 49, .ref h1, .ref h0]) rfl ?_
  have hM9 := k871_isStuckShown l hl9 dC dI z h0 h1 h2 h4 h5 h6 h7 h8 h9 h10 h11 h12 h13 h14 h15 h3 o0 o1 o2 o3 o4 o5 o6 o7 H5.size kc1 kc2 kc3
  obtain ⟨hF7, hC10⟩ := pc_M hM9 hP hD hK hS hX hT hA [1, 2, 3, 4, 5, 6, 7, 8, 9, 10, 11, 12, 13, 14, 15] [1, 2, 3] rfl rfl rfl
  refine va_calli (va_runV (As := [.ref h1, .int 49, .int 0]) (rest := []) ⟨hx, hb, hml, hown, hts⟩ hM9 (cwV 3 hts (gV q_392 q_393 q_394 q_46 q_391) rfl rfl rfl hV_X4_isStuckShown ⟨Nat.le_of_ble_eq_true rfl, Nat.le_of_ble_eq_true rfl⟩) ⟨pc_blind, va_recv hK hP (ci := 4) (q := (RX4, TX4, 3)) (q0 := 1) rfl rfl, fun U hU hW => ⟨rfl, hC10 U hU hW⟩⟩ rfl rfl hl.1 rfl (lv_room (Nat.le_of_ble_eq_true rfl)) dX4_isShownBySomeTest_28 ⟨(Nat.le_of_ble_eq_true rfl), (Nat.le_of_ble_eq_true rfl)⟩) hS (fun q9 _ h9 => hF7 q9 h9) hF7 (fun r12 u11 t11 H11 L11 ht11 hvm11 hw11 hB11 hz11 hk11 hS => ?_)
  have hP := pq_keep hP hD [1, 2, 3, 4, 5, 6, 7, 8, 9, 10, 11, 12, 13, 14, 15] rfl hk11 hB11.1 ht11
  have hG : s.heap.size + 0 ≤ H11.size := Nat.le_trans hG hz11
  refine W.eq (g2 := F0 m 31 ls [.int 0]) (by rw [hw11]) ?_
  refine lv_if_eq (tgt := 36) hx hb dX4_isShownBySomeTest_31 (by decide) (fun _ => ?_) (fun cz => absurd (by decide) cz)
  refine lv_iinc (v := 2) (lv' := [(3, .int 2), (0, .ref h0), (1, .ref h1), (2, .int 49)]) hx hb dX4_isShownBySomeTest_36 hl (k := 0) rfl (by decide) (by decide) rfl (fun ls hl => ?_)
  refine lv_goto (tgt := 2) hx hb dX4_isShownBySomeTest_39 (by decide) ?_
  refine lv_iload_n hx hb dX4_isShownBySomeTest_2 rfl (lv_at hl 0 rfl) ?_
  refine lv_aload_n hx hb dX4_isShownBySomeTest_3 rfl (lv_at hl 1 rfl) ?_
  refine va_get (D := (dC, dI)) (ci := 4) (v := .int 7) (C := RX4) (T := TX4) (N := 3) hx hb hts in_X4 hown hK hP 1 rfl rfl 2 (by decide) (hts _ q_358) (fun _ h9 => h9) rfl dX4_isShownBySomeTest_4 ?_
  refine lv_icmp_ge (tgt := 42) hx hb dX4_isShownBySomeTest_7 (by decide) (fun cz => absurd cz (by decide)) (fun _ => ?_)
  refine lv_iload_n hx hb dX4_isShownBySomeTest_10 rfl (lv_at hl 0 rfl) ?_
  refine lv_aload_n hx hb dX4_isShownBySomeTest_11 rfl (lv_at hl 1 rfl) ?_
  refine va_get (D := (dC, dI)) (ci := 4) (v := .ref h3) (C := RX4) (T := TX4) (N := 3) hx hb hts in_X4 hown hK hP 1 rfl rfl 1 (by decide) (hts _ q_49) (fun _ h9 => h9) rfl dX4_isShownBySomeTest_12 ?_
  refine va_alen hx hb hK hP 0 0 rfl rfl (v := 8) rfl dX4_isShownBySomeTest_15 ?_
  refine lv_icmp_ge (tgt := 42) hx hb dX4_isShownBySomeTest_16 (by decide) (fun cz => absurd cz (by decide)) (fun _ => ?_)
  refine lv_aload_n hx hb dX4_isShownBySomeTest_19 rfl (lv_at hl 1 rfl) ?_
  refine lv_aload_n hx hb dX4_isShownBySomeTest_20 rfl (lv_at hl 2 rfl) ?_
  refine lv_iload_n hx hb dX4_isShownBySomeTest_21 rfl (lv_at hl 3 rfl) ?_
  refine lv_aload_n hx hb dX4_isShownBySomeTest_22 rfl (lv_at hl 1 rfl) ?_
  refine va_get (D := (dC, dI)) (ci := 4) (v := .ref h3) (C := RX4) (T := TX4) (N := 3) hx hb hts in_X4 hown hK hP 1 rfl rfl 1 (by decide) (hts _ q_49) (fun _ h9 => h9) rfl dX4_isShownBySomeTest_23 ?_
  refine lv_iload_n hx hb dX4_isShownBySomeTest_26 rfl (lv_at hl 0 rfl) ?_
  refine va_iald hx hb hK hP 0 0 rfl rfl (i := 2) (by unfold vp_in; decide) dX4_isShownBySomeTest_27 ?_
  refine W.eq (g2 := F0 m 28 ls [.int 0, .int 49, .ref h1, .ref h0]) rfl ?_
  have hM15 := k871_isStuckShown l hl9 dC dI z h0 h1 h2 h4 h5 h6 h7 h8 h9 h10 h11 h12 h13 h14 h15 h3 o0 o1 o2 o3 o4 o5 o6 o7 H11.size kc1 kc2 kc3
  obtain ⟨hF13, hC16⟩ := pc_M hM15 hP hD hK hS hX hT hA [1, 2, 3, 4, 5, 6, 7, 8, 9, 10, 11, 12, 13, 14, 15] [1, 2, 3] rfl rfl rfl
  refine va_calli (va_runV (As := [.ref h1, .int 49, .int 0]) (rest := []) ⟨hx, hb, hml, hown, hts⟩ hM15 (cwV 3 hts (gV q_392 q_393 q_394 q_46 q_391) rfl rfl rfl hV_X4_isStuckShown ⟨Nat.le_of_ble_eq_true rfl, Nat.le_of_ble_eq_true rfl⟩) ⟨pc_blind, va_recv hK hP (ci := 4) (q := (RX4, TX4, 3)) (q0 := 1) rfl rfl, fun U hU hW => ⟨rfl, hC16 U hU hW⟩⟩ rfl rfl hl.1 rfl (lv_room (Nat.le_of_ble_eq_true rfl)) dX4_isShownBySomeTest_28 ⟨(Nat.le_of_ble_eq_true rfl), (Nat.le_of_ble_eq_true rfl)⟩) hS (fun q9 _ h9 => hF13 q9 h9) hF13 (fun r18 u17 t17 H17 L17 ht17 hvm17 hw17 hB17 hz17 hk17 hS => ?_)
  have hP := pq_keep hP hD [1, 2, 3, 4, 5, 6, 7, 8, 9, 10, 11, 12, 13, 14, 15] rfl hk17 hB17.1 ht17
  have hG : s.heap.size + 0 ≤ H17.size := Nat.le_trans hG hz17
  refine W.eq (g2 := F0 m 31 ls [.int 0]) (by rw [hw17]) ?_
  refine lv_if_eq (tgt := 36) hx hb dX4_isShownBySomeTest_31 (by decide) (fun _ => ?_) (fun cz => absurd (by decide) cz)
  refine lv_iinc (v := 3) (lv' := [(3, .int 3), (0, .ref h0), (1, .ref h1), (2, .int 49)]) hx hb dX4_isShownBySomeTest_36 hl (k := 0) rfl (by decide) (by decide) rfl (fun ls hl => ?_)
  refine lv_goto (tgt := 2) hx hb dX4_isShownBySomeTest_39 (by decide) ?_
  refine lv_iload_n hx hb dX4_isShownBySomeTest_2 rfl (lv_at hl 0 rfl) ?_
  refine lv_aload_n hx hb dX4_isShownBySomeTest_3 rfl (lv_at hl 1 rfl) ?_
  refine va_get (D := (dC, dI)) (ci := 4) (v := .int 7) (C := RX4) (T := TX4) (N := 3) hx hb hts in_X4 hown hK hP 1 rfl rfl 2 (by decide) (hts _ q_358) (fun _ h9 => h9) rfl dX4_isShownBySomeTest_4 ?_
  refine lv_icmp_ge (tgt := 42) hx hb dX4_isShownBySomeTest_7 (by decide) (fun cz => absurd cz (by decide)) (fun _ => ?_)
  refine lv_iload_n hx hb dX4_isShownBySomeTest_10 rfl (lv_at hl 0 rfl) ?_
  refine lv_aload_n hx hb dX4_isShownBySomeTest_11 rfl (lv_at hl 1 rfl) ?_
  refine va_get (D := (dC, dI)) (ci := 4) (v := .ref h3) (C := RX4) (T := TX4) (N := 3) hx hb hts in_X4 hown hK hP 1 rfl rfl 1 (by decide) (hts _ q_49) (fun _ h9 => h9) rfl dX4_isShownBySomeTest_12 ?_
  refine va_alen hx hb hK hP 0 0 rfl rfl (v := 8) rfl dX4_isShownBySomeTest_15 ?_
  refine lv_icmp_ge (tgt := 42) hx hb dX4_isShownBySomeTest_16 (by decide) (fun cz => absurd cz (by decide)) (fun _ => ?_)
  refine lv_aload_n hx hb dX4_isShownBySomeTest_19 rfl (lv_at hl 1 rfl) ?_
  refine lv_aload_n hx hb dX4_isShownBySomeTest_20 rfl (lv_at hl 2 rfl) ?_
  refine lv_iload_n hx hb dX4_isShownBySomeTest_21 rfl (lv_at hl 3 rfl) ?_
  refine lv_aload_n hx hb dX4_isShownBySomeTest_22 rfl (lv_at hl 1 rfl) ?_
  refine va_get (D := (dC, dI)) (ci := 4) (v := .ref h3) (C := RX4) (T := TX4) (N := 3) hx hb hts in_X4 hown hK hP 1 rfl rfl 1 (by decide) (hts _ q_49) (fun _ h9 => h9) rfl dX4_isShownBySomeTest_23 ?_
  refine lv_iload_n hx hb dX4_isShownBySomeTest_26 rfl (lv_at hl 0 rfl) ?_
  refine va_iald hx hb hK hP 0 0 rfl rfl (i := 3) (by unfold vp_in; decide) dX4_isShownBySomeTest_27 ?_
  refine W.eq (g2 := F0 m 28 ls [.int 0, .int 49, .ref h1, .ref h0]) rfl ?_
  have hM21 := k871_isStuckShown l hl9 dC dI z h0 h1 h2 h4 h5 h6 h7 h8 h9 h10 h11 h12 h13 h14 h15 h3 o0 o1 o2 o3 o4 o5 o6 o7 H17.size kc1 kc2 kc3
  obtain ⟨hF19, hC22⟩ := pc_M hM21 hP hD hK hS hX hT hA [1, 2, 3, 4, 5, 6, 7, 8, 9, 10, 11, 12, 13, 14, 15] [1, 2, 3] rfl rfl rfl
  refine va_calli (va_runV (As := [.ref h1, .int 49, .int 0]) (rest := []) ⟨hx, hb, hml, hown, hts⟩ hM21 (cwV 3 hts (gV q_392 q_393 q_394 q_46 q_391) rfl rfl rfl hV_X4_isStuckShown ⟨Nat.le_of_ble_eq_true rfl, Nat.le_of_ble_eq_true rfl⟩) ⟨pc_blind, va_recv hK hP (ci := 4) (q := (RX4, TX4, 3)) (q0 := 1) rfl rfl, fun U hU hW => ⟨rfl, hC22 U hU hW⟩⟩ rfl rfl hl.1 rfl (lv_room (Nat.le_of_ble_eq_true rfl)) dX4_isShownBySomeTest_28 ⟨(Nat.le_of_ble_eq_true rfl), (Nat.le_of_ble_eq_true rfl)⟩) hS (fun q9 _ h9 => hF19 q9 h9) hF19 (fun r24 u23 t23 H23 L23 ht23 hvm23 hw23 hB23 hz23 hk23 hS => ?_)
  have hP := pq_keep hP hD [1, 2, 3, 4, 5, 6, 7, 8, 9, 10, 11, 12, 13, 14, 15] rfl hk23 hB23.1 ht23
  have hG : s.heap.size + 0 ≤ H23.size := Nat.le_trans hG hz23
  refine W.eq (g2 := F0 m 31 ls [.int 0]) (by rw [hw23]) ?_
  refine lv_if_eq (tgt := 36) hx hb dX4_isShownBySomeTest_31 (by decide) (fun _ => ?_) (fun cz => absurd (by decide) cz)
  refine lv_iinc (v := 4) (lv' := [(3, .int 4), (0, .ref h0), (1, .ref h1), (2, .int 49)]) hx hb dX4_isShownBySomeTest_36 hl (k := 0) rfl (by decide) (by decide) rfl (fun ls hl => ?_)
  refine lv_goto (tgt := 2) hx hb dX4_isShownBySomeTest_39 (by decide) ?_
  refine lv_iload_n hx hb dX4_isShownBySomeTest_2 rfl (lv_at hl 0 rfl) ?_
  refine lv_aload_n hx hb dX4_isShownBySomeTest_3 rfl (lv_at hl 1 rfl) ?_
  refine va_get (D := (dC, dI)) (ci := 4) (v := .int 7) (C := RX4) (T := TX4) (N := 3) hx hb hts in_X4 hown hK hP 1 rfl rfl 2 (by decide) (hts _ q_358) (fun _ h9 => h9) rfl dX4_isShownBySomeTest_4 ?_
  refine lv_icmp_ge (tgt := 42) hx hb dX4_isShownBySomeTest_7 (by decide) (fun cz => absurd cz (by decide)) (fun _ => ?_)
  refine lv_iload_n hx hb dX4_isShownBySomeTest_10 rfl (lv_at hl 0 rfl) ?_
  refine lv_aload_n hx hb dX4_isShownBySomeTest_11 rfl (lv_at hl 1 rfl) ?_
  refine va_get (D := (dC, dI)) (ci := 4) (v := .ref h3) (C := RX4) (T := TX4) (N := 3) hx hb hts in_X4 hown hK hP 1 rfl rfl 1 (by decide) (hts _ q_49) (fun _ h9 => h9) rfl dX4_isShownBySomeTest_12 ?_
  refine va_alen hx hb hK hP 0 0 rfl rfl (v := 8) rfl dX4_isShownBySomeTest_15 ?_
  refine lv_icmp_ge (tgt := 42) hx hb dX4_isShownBySomeTest_16 (by decide) (fun cz => absurd cz (by decide)) (fun _ => ?_)
  refine lv_aload_n hx hb dX4_isShownBySomeTest_19 rfl (lv_at hl 1 rfl) ?_
  refine lv_aload_n hx hb dX4_isShownBySomeTest_20 rfl (lv_at hl 2 rfl) ?_
  refine lv_iload_n hx hb dX4_isShownBySomeTest_21 rfl (lv_at hl 3 rfl) ?_
  refine lv_aload_n hx hb dX4_isShownBySomeTest_22 rfl (lv_at hl 1 rfl) ?_
  refine va_get (D := (dC, dI)) (ci := 4) (v := .ref h3) (C := RX4) (T := TX4) (N := 3) hx hb hts in_X4 hown hK hP 1 rfl rfl 1 (by decide) (hts _ q_49) (fun _ h9 => h9) rfl dX4_isShownBySomeTest_23 ?_
  refine lv_iload_n hx hb dX4_isShownBySomeTest_26 rfl (lv_at hl 0 rfl) ?_
  refine va_iald hx hb hK hP 0 0 rfl rfl (i := 4) (by unfold vp_in; decide) dX4_isShownBySomeTest_27 ?_
  refine W.eq (g2 := F0 m 28 ls [.int 0, .int 49, .ref h1, .ref h0]) rfl ?_
  have hM27 := k871_isStuckShown l hl9 dC dI z h0 h1 h2 h4 h5 h6 h7 h8 h9 h10 h11 h12 h13 h14 h15 h3 o0 o1 o2 o3 o4 o5 o6 o7 H23.size kc1 kc2 kc3
  obtain ⟨hF25, hC28⟩ := pc_M hM27 hP hD hK hS hX hT hA [1, 2, 3, 4, 5, 6, 7, 8, 9, 10, 11, 12, 13, 14, 15] [1, 2, 3] rfl rfl rfl
  refine va_calli (va_runV (As := [.ref h1, .int 49, .int 0]) (rest := []) ⟨hx, hb, hml, hown, hts⟩ hM27 (cwV 3 hts (gV q_392 q_393 q_394 q_46 q_391) rfl rfl rfl hV_X4_isStuckShown ⟨Nat.le_of_ble_eq_true rfl, Nat.le_of_ble_eq_true rfl⟩) ⟨pc_blind, va_recv hK hP (ci := 4) (q := (RX4, TX4, 3)) (q0 := 1) rfl rfl, fun U hU hW => ⟨rfl, hC28 U hU hW⟩⟩ rfl rfl hl.1 rfl (lv_room (Nat.le_of_ble_eq_true rfl)) dX4_isShownBySomeTest_28 ⟨(Nat.le_of_ble_eq_true rfl), (Nat.le_of_ble_eq_true rfl)⟩) hS (fun q9 _ h9 => hF25 q9 h9) hF25 (fun r30 u29 t29 H29 L29 ht29 hvm29 hw29 hB29 hz29 hk29 hS => ?_)
  have hP := pq_keep hP hD [1, 2, 3, 4, 5, 6, 7, 8, 9, 10, 11, 12, 13, 14, 15] rfl hk29 hB29.1 ht29
  have hG : s.heap.size + 0 ≤ H29.size := Nat.le_trans hG hz29
  refine W.eq (g2 := F0 m 31 ls [.int 0]) (by rw [hw29]) ?_
  refine lv_if_eq (tgt := 36) hx hb dX4_isShownBySomeTest_31 (by decide) (fun _ => ?_) (fun cz => absurd (by decide) cz)
  refine lv_iinc (v := 5) (lv' := [(3, .int 5), (0, .ref h0), (1, .ref h1), (2, .int 49)]) hx hb dX4_isShownBySomeTest_36 hl (k := 0) rfl (by decide) (by decide) rfl (fun ls hl => ?_)
  refine lv_goto (tgt := 2) hx hb dX4_isShownBySomeTest_39 (by decide) ?_
  refine lv_iload_n hx hb dX4_isShownBySomeTest_2 rfl (lv_at hl 0 rfl) ?_
  refine lv_aload_n hx hb dX4_isShownBySomeTest_3 rfl (lv_at hl 1 rfl) ?_
  refine va_get (D := (dC, dI)) (ci := 4) (v := .int 7) (C := RX4) (T := TX4) (N := 3) hx hb hts in_X4 hown hK hP 1 rfl rfl 2 (by decide) (hts _ q_358) (fun _ h9 => h9) rfl dX4_isShownBySomeTest_4 ?_
  refine lv_icmp_ge (tgt := 42) hx hb dX4_isShownBySomeTest_7 (by decide) (fun cz => absurd cz (by decide)) (fun _ => ?_)
  refine lv_iload_n hx hb dX4_isShownBySomeTest_10 rfl (lv_at hl 0 rfl) ?_
  refine lv_aload_n hx hb dX4_isShownBySomeTest_11 rfl (lv_at hl 1 rfl) ?_
  refine va_get (D := (dC, dI)) (ci := 4) (v := .ref h3) (C := RX4) (T := TX4) (N := 3) hx hb hts in_X4 hown hK hP 1 rfl rfl 1 (by decide) (hts _ q_49) (fun _ h9 => h9) rfl dX4_isShownBySomeTest_12 ?_
  refine va_alen hx hb hK hP 0 0 rfl rfl (v := 8) rfl dX4_isShownBySomeTest_15 ?_
  refine lv_icmp_ge (tgt := 42) hx hb dX4_isShownBySomeTest_16 (by decide) (fun cz => absurd cz (by decide)) (fun _ => ?_)
  refine lv_aload_n hx hb dX4_isShownBySomeTest_19 rfl (lv_at hl 1 rfl) ?_
  refine lv_aload_n hx hb dX4_isShownBySomeTest_20 rfl (lv_at hl 2 rfl) ?_
  refine lv_iload_n hx hb dX4_isShownBySomeTest_21 rfl (lv_at hl 3 rfl) ?_
  refine lv_aload_n hx hb dX4_isShownBySomeTest_22 rfl (lv_at hl 1 rfl) ?_
  refine va_get (D := (dC, dI)) (ci := 4) (v := .ref h3) (C := RX4) (T := TX4) (N := 3) hx hb hts in_X4 hown hK hP 1 rfl rfl 1 (by decide) (hts _ q_49) (fun _ h9 => h9) rfl dX4_isShownBySomeTest_23 ?_
  refine lv_iload_n hx hb dX4_isShownBySomeTest_26 rfl (lv_at hl 0 rfl) ?_
  refine va_iald hx hb hK hP 0 0 rfl rfl (i := 5) (by unfold vp_in; decide) dX4_isShownBySomeTest_27 ?_
  refine W.eq (g2 := F0 m 28 ls [.int 0, .int 49, .ref h1, .ref h0]) rfl ?_
  have hM33 := k871_isStuckShown l hl9 dC dI z h0 h1 h2 h4 h5 h6 h7 h8 h9 h10 h11 h12 h13 h14 h15 h3 o0 o1 o2 o3 o4 o5 o6 o7 H29.size kc1 kc2 kc3
  obtain ⟨hF31, hC34⟩ := pc_M hM33 hP hD hK hS hX hT hA [1, 2, 3, 4, 5, 6, 7, 8, 9, 10, 11, 12, 13, 14, 15] [1, 2, 3] rfl rfl rfl
  refine va_calli (va_runV (As := [.ref h1, .int 49, .int 0]) (rest := []) ⟨hx, hb, hml, hown, hts⟩ hM33 (cwV 3 hts (gV q_392 q_393 q_394 q_46 q_391) rfl rfl rfl hV_X4_isStuckShown ⟨Nat.le_of_ble_eq_true rfl, Nat.le_of_ble_eq_true rfl⟩) ⟨pc_blind, va_recv hK hP (ci := 4) (q := (RX4, TX4, 3)) (q0 := 1) rfl rfl, fun U hU hW => ⟨rfl, hC34 U hU hW⟩⟩ rfl rfl hl.1 rfl (lv_room (Nat.le_of_ble_eq_true rfl)) dX4_isShownBySomeTest_28 ⟨(Nat.le_of_ble_eq_true rfl), (Nat.le_of_ble_eq_true rfl)⟩) hS (fun q9 _ h9 => hF31 q9 h9) hF31 (fun r36 u35 t35 H35 L35 ht35 hvm35 hw35 hB35 hz35 hk35 hS => ?_)
  have hP := pq_keep hP hD [1, 2, 3, 4, 5, 6, 7, 8, 9, 10, 11, 12, 13, 14, 15] rfl hk35 hB35.1 ht35
  have hG : s.heap.size + 0 ≤ H35.size := Nat.le_trans hG hz35
  refine W.eq (g2 := F0 m 31 ls [.int 0]) (by rw [hw35]) ?_
  refine lv_if_eq (tgt := 36) hx hb dX4_isShownBySomeTest_31 (by decide) (fun _ => ?_) (fun cz => absurd (by decide) cz)
  refine lv_iinc (v := 6) (lv' := [(3, .int 6), (0, .ref h0), (1, .ref h1), (2, .int 49)]) hx hb dX4_isShownBySomeTest_36 hl (k := 0) rfl (by decide) (by decide) rfl (fun ls hl => ?_)
  refine lv_goto (tgt := 2) hx hb dX4_isShownBySomeTest_39 (by decide) ?_
  refine lv_iload_n hx hb dX4_isShownBySomeTest_2 rfl (lv_at hl 0 rfl) ?_
  refine lv_aload_n hx hb dX4_isShownBySomeTest_3 rfl (lv_at hl 1 rfl) ?_
  refine va_get (D := (dC, dI)) (ci := 4) (v := .int 7) (C := RX4) (T := TX4) (N := 3) hx hb hts in_X4 hown hK hP 1 rfl rfl 2 (by decide) (hts _ q_358) (fun _ h9 => h9) rfl dX4_isShownBySomeTest_4 ?_
  refine lv_icmp_ge (tgt := 42) hx hb dX4_isShownBySomeTest_7 (by decide) (fun cz => absurd cz (by decide)) (fun _ => ?_)
  refine lv_iload_n hx hb dX4_isShownBySomeTest_10 rfl (lv_at hl 0 rfl) ?_
  refine lv_aload_n hx hb dX4_isShownBySomeTest_11 rfl (lv_at hl 1 rfl) ?_
  refine va_get (D := (dC, dI)) (ci := 4) (v := .ref h3) (C := RX4) (T := TX4) (N := 3) hx hb hts in_X4 hown hK hP 1 rfl rfl 1 (by decide) (hts _ q_49) (fun _ h9 => h9) rfl dX4_isShownBySomeTest_12 ?_
  refine va_alen hx hb hK hP 0 0 rfl rfl (v := 8) rfl dX4_isShownBySomeTest_15 ?_
  refine lv_icmp_ge (tgt := 42) hx hb dX4_isShownBySomeTest_16 (by decide) (fun cz => absurd cz (by decide)) (fun _ => ?_)
  refine lv_aload_n hx hb dX4_isShownBySomeTest_19 rfl (lv_at hl 1 rfl) ?_
  refine lv_aload_n hx hb dX4_isShownBySomeTest_20 rfl (lv_at hl 2 rfl) ?_
  refine lv_iload_n hx hb dX4_isShownBySomeTest_21 rfl (lv_at hl 3 rfl) ?_
  refine lv_aload_n hx hb dX4_isShownBySomeTest_22 rfl (lv_at hl 1 rfl) ?_
  refine va_get (D := (dC, dI)) (ci := 4) (v := .ref h3) (C := RX4) (T := TX4) (N := 3) hx hb hts in_X4 hown hK hP 1 rfl rfl 1 (by decide) (hts _ q_49) (fun _ h9 => h9) rfl dX4_isShownBySomeTest_23 ?_
  refine lv_iload_n hx hb dX4_isShownBySomeTest_26 rfl (lv_at hl 0 rfl) ?_
  refine va_iald hx hb hK hP 0 0 rfl rfl (i := 6) (by unfold vp_in; decide) dX4_isShownBySomeTest_27 ?_
  refine W.eq (g2 := F0 m 28 ls [.int 0, .int 49, .ref h1, .ref h0]) rfl ?_
  have hM39 := k871_isStuckShown l hl9 dC dI z h0 h1 h2 h4 h5 h6 h7 h8 h9 h10 h11 h12 h13 h14 h15 h3 o0 o1 o2 o3 o4 o5 o6 o7 H35.size kc1 kc2 kc3
  obtain ⟨hF37, hC40⟩ := pc_M hM39 hP hD hK hS hX hT hA [1, 2, 3, 4, 5, 6, 7, 8, 9, 10, 11, 12, 13, 14, 15] [1, 2, 3] rfl rfl rfl
  refine va_calli (va_runV (As := [.ref h1, .int 49, .int 0]) (rest := []) ⟨hx, hb, hml, hown, hts⟩ hM39 (cwV 3 hts (gV q_392 q_393 q_394 q_46 q_391) rfl rfl rfl hV_X4_isStuckShown ⟨Nat.le_of_ble_eq_true rfl, Nat.le_of_ble_eq_true rfl⟩) ⟨pc_blind, va_recv hK hP (ci := 4) (q := (RX4, TX4, 3)) (q0 := 1) rfl rfl, fun U hU hW => ⟨rfl, hC40 U hU hW⟩⟩ rfl rfl hl.1 rfl (lv_room (Nat.le_of_ble_eq_true rfl)) dX4_isShownBySomeTest_28 ⟨(Nat.le_of_ble_eq_true rfl), (Nat.le_of_ble_eq_true rfl)⟩) hS (fun q9 _ h9 => hF37 q9 h9) hF37 (fun r42 u41 t41 H41 L41 ht41 hvm41 hw41 hB41 hz41 hk41 hS => ?_)
  have hP := pq_keep hP hD [1, 2, 3, 4, 5, 6, 7, 8, 9, 10, 11, 12, 13, 14, 15] rfl hk41 hB41.1 ht41
  have hG : s.heap.size + 0 ≤ H41.size := Nat.le_trans hG hz41
  refine W.eq (g2 := F0 m 31 ls [.int 0]) (by rw [hw41]) ?_
  refine lv_if_eq (tgt := 36) hx hb dX4_isShownBySomeTest_31 (by decide) (fun _ => ?_) (fun cz => absurd (by decide) cz)
  refine lv_iinc (v := 7) (lv' := [(3, .int 7), (0, .ref h0), (1, .ref h1), (2, .int 49)]) hx hb dX4_isShownBySomeTest_36 hl (k := 0) rfl (by decide) (by decide) rfl (fun ls hl => ?_)
  refine lv_goto (tgt := 2) hx hb dX4_isShownBySomeTest_39 (by decide) ?_
  refine lv_iload_n hx hb dX4_isShownBySomeTest_2 rfl (lv_at hl 0 rfl) ?_
  refine lv_aload_n hx hb dX4_isShownBySomeTest_3 rfl (lv_at hl 1 rfl) ?_
  refine va_get (D := (dC, dI)) (ci := 4) (v := .int 7) (C := RX4) (T := TX4) (N := 3) hx hb hts in_X4 hown hK hP 1 rfl rfl 2 (by decide) (hts _ q_358) (fun _ h9 => h9) rfl dX4_isShownBySomeTest_4 ?_
  refine lv_icmp_ge (tgt := 42) hx hb dX4_isShownBySomeTest_7 (by decide) (fun _ => ?_) (fun cz => absurd (by decide) cz)
  refine lv_iconst (v := 0) hx hb dX4_isShownBySomeTest_42 (by decide) ?_
  exact W.zret (v := 0) (ty := .boolean) hx hb hr rfl (fun t9 ht9 hW9 => ⟨⟨0, (), rfl, rfl, ⟨pq_mk2 hP hD hK [1, 2, 3, 0, 4, 5, 6, 7, 8, 9, 10, 11, 12, 13, 14, 15] [0, 1, 2, 3] rfl rfl rfl ht9 hW9, by rw [ht9]; exact Nat.le_trans (Nat.add_le_add_left (Nat.le_of_ble_eq_true rfl) _) hG⟩⟩, hS.F ht9⟩) hS.2.2 dX4_isShownBySomeTest_43

set_option maxHeartbeats 4000000 in
set_option maxRecDepth 100000 in
theorem k992_shown (l : Launch) (hl9 : l.stackTraces = false) (dC : Nat → ClassId) (dI : Nat → Nat → Nat) (z : XZ) (h0 h1 h2 h3 h4 h5 h6 h7 h8 h9 h10 h11 h12 h13 h14 h15 h16 : Nat) (o0 o1 o2 o3 o4 o5 o6 o7 o8 : Nat) (sz : Nat) (kc0 kc1 kc2 kc3 : ClassId) : Met l yX6_shown (.code yX6_shown cX6_shown 4 (some .int) :: wsL_law) ({ frames := 7, cells := 0, slots := 0, locals := 160 }) (va_Pc [.ref h0] (PC (dC, dI) [(h0, ce16 h1 o0 h2), (h1, ce7 h3 h4 o1 h5), (h2, ce417 h1 h6), (h3, ce331 h7), (h4, ce331 h8), (h5, ce366 h9), (h6, ce416 kc0), (h7, ce330 kc1 h10 h11 h12 h13 h14 h15 h16), (h8, ce330 kc2 h10 h11 h12 h13 h14 h15 h16), (h9, ce330 kc3 h10 h11 h12 h13 h14 h15 h16), (h10, ce427 (z.2.1 0) o2 h10), (h11, ce428 (z.2.1 0) o3 h11), (h12, ce429 (z.2.1 0) o4 h12), (h13, ce430 (z.2.1 0) o5 h13), (h14, ce431 (z.2.1 0) o6 h14), (h15, ce432 (z.2.1 0) o7 h15), (h16, ce440 (z.2.1 0) o8 h16)] [(kc0, .int), (kc1, .object "java/lang/Object"), (kc2, .object "java/lang/Object"), (kc3, .object "java/lang/Object")] sz z)) (va_Qi (fun (r : Int32) (_ : Unit) => r = 0) (fun (_ : Unit) (t : State) => PG (dC, dI) [(h0, ce16 h1 o0 h2), (h1, ce7 h3 h4 o1 h5), (h2, ce417 h1 h6), (h3, ce331 h7), (h4, ce331 h8), (h5, ce366 h9), (h6, ce416 kc0), (h7, ce330 kc1 h10 h11 h12 h13 h14 h15 h16), (h8, ce330 kc2 h10 h11 h12 h13 h14 h15 h16), (h9, ce330 kc3 h10 h11 h12 h13 h14 h15 h16), (h10, ce427 (z.2.1 0) o2 h10), (h11, ce428 (z.2.1 0) o3 h11), (h12, ce429 (z.2.1 0) o4 h12), (h13, ce430 (z.2.1 0) o5 h13), (h14, ce431 (z.2.1 0) o6 h14), (h15, ce432 (z.2.1 0) o7 h15), (h16, ce440 (z.2.1 0) o8 h16)] [(kc0, .int), (kc1, .object "java/lang/Object"), (kc2, .object "java/lang/Object"), (kc3, .object "java/lang/Object")] (va_A [(h0, ce16 h1 o0 h2), (h1, ce7 h3 h4 o1 h5), (h2, ce417 h1 h6), (h3, ce331 h7), (h4, ce331 h8), (h5, ce366 h9), (h6, ce416 kc0), (h7, ce330 kc1 h10 h11 h12 h13 h14 h15 h16), (h8, ce330 kc2 h10 h11 h12 h13 h14 h15 h16), (h9, ce330 kc3 h10 h11 h12 h13 h14 h15 h16), (h10, ce427 (z.2.1 0) o2 h10), (h11, ce428 (z.2.1 0) o3 h11), (h12, ce429 (z.2.1 0) o4 h12), (h13, ce430 (z.2.1 0) o5 h13), (h14, ce431 (z.2.1 0) o6 h14), (h15, ce432 (z.2.1 0) o7 h15), (h16, ce440 (z.2.1 0) o8 h16)] sz) sz 0 t) (va_A [(h0, ce16 h1 o0 h2), (h1, ce7 h3 h4 o1 h5), (h2, ce417 h1 h6), (h3, ce331 h7), (h4, ce331 h8), (h5, ce366 h9), (h6, ce416 kc0), (h7, ce330 kc1 h10 h11 h12 h13 h14 h15 h16), (h8, ce330 kc2 h10 h11 h12 h13 h14 h15 h16), (h9, ce330 kc3 h10 h11 h12 h13 h14 h15 h16), (h10, ce427 (z.2.1 0) o2 h10), (h11, ce428 (z.2.1 0) o3 h11), (h12, ce429 (z.2.1 0) o4 h12), (h13, ce430 (z.2.1 0) o5 h13), (h14, ce431 (z.2.1 0) o6 h14), (h15, ce432 (z.2.1 0) o7 h15), (h16, ce440 (z.2.1 0) o8 h16)] sz)) 0 0 (va_A [(h0, ce16 h1 o0 h2), (h1, ce7 h3 h4 o1 h5), (h2, ce417 h1 h6), (h3, ce331 h7), (h4, ce331 h8), (h5, ce366 h9), (h6, ce416 kc0), (h7, ce330 kc1 h10 h11 h12 h13 h14 h15 h16), (h8, ce330 kc2 h10 h11 h12 h13 h14 h15 h16), (h9, ce330 kc3 h10 h11 h12 h13 h14 h15 h16), (h10, ce427 (z.2.1 0) o2 h10), (h11, ce428 (z.2.1 0) o3 h11), (h12, ce429 (z.2.1 0) o4 h12), (h13, ce430 (z.2.1 0) o5 h13), (h14, ce431 (z.2.1 0) o6 h14), (h15, ce432 (z.2.1 0) o7 h15), (h16, ce440 (z.2.1 0) o8 h16)] sz) := by
  refine Met.ofW (cc := cX6_shown) (maxL := 4) (ret := (some .int)) (by decide) rfl ?_
  intro p e s m args below meth c s₁ B hml hv
  obtain ⟨rfl, hsz, hP, hK, hD0, hX, hT⟩ := hv
  have hx := B.exec
  have hb := B.bytes
  have hr := B.returns
  have hts0 := atoms_spec (ws := .code yX6_shown cX6_shown 4 (some .int) :: wsL_law) B.pre
  have hts := xTail hts0
  have hown : s.vm.findClass RX6 = some m.cls := xown B.named rfl
  have hlocks := B.notSynchronized
  subst hsz
  have hD := hD0.self (sz := s.heap.size)
  generalize hAe : va_A [(h0, ce16 h1 o0 h2), (h1, ce7 h3 h4 o1 h5), (h2, ce417 h1 h6), (h3, ce331 h7), (h4, ce331 h8), (h5, ce366 h9), (h6, ce416 kc0), (h7, ce330 kc1 h10 h11 h12 h13 h14 h15 h16), (h8, ce330 kc2 h10 h11 h12 h13 h14 h15 h16), (h9, ce330 kc3 h10 h11 h12 h13 h14 h15 h16), (h10, ce427 (z.2.1 0) o2 h10), (h11, ce428 (z.2.1 0) o3 h11), (h12, ce429 (z.2.1 0) o4 h12), (h13, ce430 (z.2.1 0) o5 h13), (h14, ce431 (z.2.1 0) o6 h14), (h15, ce432 (z.2.1 0) o7 h15), (h16, ce440 (z.2.1 0) o8 h16)] s.heap.size = A at hD hX ⊢
  have hA : ∀ q : Nat, s.heap.size ≤ q → A q := fun q h => by rw [← hAe]; exact Or.inr h
  have hS : va_S A s.heap s.heap [] := va_S.rf
  have hG : s.heap.size + 0 ≤ s.heap.size := Nat.le_refl _
  have hl := lv_entry ([.ref h0]) (n := 4) (Nat.le_of_ble_eq_true rfl)
  rw [lg_entry_eq]
  generalize (lg_sl ([.ref h0]) ++ List.replicate (4 - (lg_sl ([.ref h0])).length) Slot.unset).toArray = ls at hl ⊢
  have hl : lv_has ls 4 [(0, .ref h0)] := hl
  refine lv_iconst (v := 0) hx hb dX6_shown_0 (by decide) ?_
  refine lv_istore_n (lv' := [(1, .int 0), (0, .ref h0)]) hx hb dX6_shown_1 rfl hl (by decide) rfl (fun ls hl => ?_)
  refine lv_iconst (v := 0) hx hb dX6_shown_2 (by decide) ?_
  refine lv_istore_n (lv' := [(2, .int 0), (1, .int 0), (0, .ref h0)]) hx hb dX6_shown_3 rfl hl (by decide) rfl (fun ls hl => ?_)
  refine lv_iload_n hx hb dX6_shown_4 rfl (lv_at hl 0 rfl) ?_
  refine lv_aload_n hx hb dX6_shown_5 rfl (lv_at hl 2 rfl) ?_
  refine va_get (D := (dC, dI)) (ci := 6) (v := .ref h1) (C := RX6) (T := TX6) (N := 3) hx hb hts in_X6 hown hK hP 0 rfl rfl 0 (by decide) (hts _ q_34) (fun _ h9 => h9) rfl dX6_shown_6 ?_
  refine va_get (D := (dC, dI)) (ci := 2) (v := .ref h3) (C := RX0) (T := TX0) (N := 4) hx hb hts in_X0 hown hK hP 1 rfl rfl 0 (by decide) (hts _ q_83) (fun _ h9 => h9) rfl dX6_shown_9 ?_
  have hM3 := k20_size l hl9 dC dI z h3 h7 s.heap.size 7 7
  obtain ⟨hF1, hC4⟩ := pc_M hM3 hP hD hK hS hX hT hA [3] [] rfl rfl rfl
  refine va_calli (va_runV (As := []) (rest := [.int 0]) ⟨hx, hb, hml, hown, hts⟩ hM3 (cwV 0 hts (gV q_76 q_77 q_78 q_12 q_75) rfl rfl rfl hV_Jx4a65c_size_8abf5 ⟨Nat.le_of_ble_eq_true rfl, Nat.le_of_ble_eq_true rfl⟩) ⟨pc_blind, va_recv hK hP (ci := 0) (q := (RJx4a65c, TJx4a65c, 3)) (q0 := 3) rfl rfl, fun U hU hW => ⟨rfl, hC4 U hU hW⟩⟩ rfl rfl hl.1 rfl (lv_room (Nat.le_of_ble_eq_true rfl)) dX6_shown_12 ⟨(Nat.le_of_ble_eq_true rfl), (Nat.le_of_ble_eq_true rfl)⟩) hS (fun q9 _ h9 => hF1 q9 h9) hF1 (fun r6 u5 t5 H5 L5 ht5 hvm5 hw5 hB5 hz5 hk5 hS => ?_)
  have hP := pq_keep hP hD [3] rfl hk5 hB5.1 ht5
  have hG : s.heap.size + 0 ≤ H5.size := Nat.le_trans hG hz5
  refine W.eq (g2 := F0 m 15 ls [.int 7, .int 0]) (by rw [hw5]) ?_
  refine lv_icmp_ge (tgt := 81) hx hb dX6_shown_15 (by decide) (fun cz => absurd cz (by decide)) (fun _ => ?_)
  refine lv_aload_n hx hb dX6_shown_18 rfl (lv_at hl 2 rfl) ?_
  refine va_get (D := (dC, dI)) (ci := 6) (v := .ref h1) (C := RX6) (T := TX6) (N := 3) hx hb hts in_X6 hown hK hP 0 rfl rfl 0 (by decide) (hts _ q_34) (fun _ h9 => h9) rfl dX6_shown_19 ?_
  refine va_get (D := (dC, dI)) (ci := 2) (v := .ref h3) (C := RX0) (T := TX0) (N := 4) hx hb hts in_X0 hown hK hP 1 rfl rfl 0 (by decide) (hts _ q_83) (fun _ h9 => h9) rfl dX6_shown_22 ?_
  refine lv_iload_n hx hb dX6_shown_25 rfl (lv_at hl 0 rfl) ?_
  have hM9 := k632_get l hl9 dC dI z h3 h7 h10 h11 h12 h13 h14 h15 h16 H5.size kc1
  obtain ⟨hF7, hC10⟩ := pc_M hM9 hP hD hK hS hX hT hA [3, 7] [1] rfl rfl rfl
  refine va_callr (va_runV (As := [.int 0]) (rest := []) ⟨hx, hb, hml, hown, hts⟩ hM9 (cwV 1 hts (gV q_381 q_157 q_158 q_12 q_155) rfl rfl rfl hV_Jx4a65c_get_915e3 ⟨Nat.le_of_ble_eq_true rfl, Nat.le_of_ble_eq_true rfl⟩) ⟨pc_blind, va_recv hK hP (ci := 0) (q := (RJx4a65c, TJx4a65c, 3)) (q0 := 3) rfl rfl, fun U hU hW => ⟨rfl, hC10 U hU hW⟩⟩ rfl rfl hl.1 rfl (lv_room (Nat.le_of_ble_eq_true rfl)) dX6_shown_26 ⟨(Nat.le_of_ble_eq_true rfl), (Nat.le_of_ble_eq_true rfl)⟩) hS (fun q9 _ h9 => hF7 q9 h9) hF7 (fun u11 r12 t11 H11 L11 ht11 hvm11 hw11 hB11 hz11 hk11 hS => ?_)
  obtain ⟨hr11, hB11⟩ := hB11
  have hP := pq_keep hP hD [3, 7] rfl hk11 hB11.1 ht11
  have hG : s.heap.size + 0 ≤ H11.size := Nat.le_trans hG hz11
  refine W.eq (g2 := F0 m 29 ls [.ref h10]) (by rw [hr11]) ?_
  refine va_castE (nm := RX2) hx hb hown (hts _ q_382) (va_recv hK hP (ci := 3) (q := (RX2, TX2, 19)) (q0 := 10) rfl rfl) dX6_shown_29 ?_
  refine lv_astore_n (lv' := [(3, .ref h10), (2, .int 0), (1, .int 0), (0, .ref h0)]) hx hb dX6_shown_32 rfl hl (by decide) rfl (fun ls hl => ?_)
  refine lv_iload_n hx hb dX6_shown_33 rfl (lv_at hl 2 rfl) ?_
  refine lv_aload_n hx hb dX6_shown_34 rfl (lv_at hl 3 rfl) ?_
  refine va_get (D := (dC, dI)) (ci := 6) (v := .ref h2) (C := RX6) (T := TX6) (N := 3) hx hb hts in_X6 hown hK hP 0 rfl rfl 2 (by decide) (hts _ q_54) (fun _ h9 => h9) rfl dX6_shown_35 ?_
  refine lv_aload_n hx hb dX6_shown_38 rfl (lv_at hl 0 rfl) ?_
  refine lv_bipush (v := 48) hx hb dX6_shown_39 (by decide) ?_
  have hM15 := k989_isShownBySomeTest l hl9 dC dI z h2 h10 h1 h6 h4 h5 h8 h9 h11 h12 h13 h14 h15 h16 o2 h3 o1 o3 o4 o5 o6 o7 o8 H11.size kc0 kc2 kc3
  obtain ⟨hF13, hC16⟩ := pc_M hM15 hP hD hK hS hX hT hA [2, 10, 1, 6, 4, 5, 8, 9, 11, 12, 13, 14, 15, 16] [0, 2, 3] rfl rfl rfl
  refine va_calli (va_runV (As := [.ref h10, .int 48]) (rest := [.int 0]) ⟨hx, hb, hml, hown, hts⟩ hM15 (cwV 2 hts (gV q_396 q_397 q_398 q_46 q_395) rfl rfl rfl hV_X4_isShownBySomeTest ⟨Nat.le_of_ble_eq_true rfl, Nat.le_of_ble_eq_true rfl⟩) ⟨pc_blind, va_recv hK hP (ci := 4) (q := (RX4, TX4, 3)) (q0 := 2) rfl rfl, fun U hU hW => ⟨rfl, hC16 U hU hW⟩⟩ rfl rfl hl.1 rfl (lv_room (Nat.le_of_ble_eq_true rfl)) dX6_shown_41 ⟨(Nat.le_of_ble_eq_true rfl), (Nat.le_of_ble_eq_true rfl)⟩) hS (fun q9 _ h9 => hF13 q9 h9) hF13 (fun r18 u17 t17 H17 L17 ht17 hvm17 hw17 hB17 hz17 hk17 hS => ?_)
  obtain ⟨hP, hD, hK⟩ := pq_jn (wz := [(h0, ce16 h1 o0 h2), (h3, ce331 h7), (h7, ce330 kc1 h10 h11 h12 h13 h14 h15 h16), (h2, ce417 h1 h6), (h10, ce427 (z.2.1 0) o2 h10), (h1, ce7 h3 h4 o1 h5), (h6, ce416 kc0), (h4, ce331 h8), (h5, ce366 h9), (h8, ce330 kc2 h10 h11 h12 h13 h14 h15 h16), (h9, ce330 kc3 h10 h11 h12 h13 h14 h15 h16), (h11, ce428 (z.2.1 0) o3 h11), (h12, ce429 (z.2.1 0) o4 h12), (h13, ce430 (z.2.1 0) o5 h13), (h14, ce431 (z.2.1 0) o6 h14), (h15, ce432 (z.2.1 0) o7 h15), (h16, ce433 (z.2.1 0) o8 h16)]) (tz := [(kc1, .object "java/lang/Object"), (kc0, .int), (kc2, .object "java/lang/Object"), (kc3, .object "java/lang/Object")]) hP hD hK [2, 10, 1, 6, 4, 5, 8, 9, 11, 12, 13, 14, 15, 16] [1] rfl hk17 hF13 hB17.1 ht17 hvm17 rfl rfl
  have hG : s.heap.size + 0 ≤ H17.size := Nat.le_trans hG hz17
  refine W.eq (g2 := F0 m 44 ls [.int 0, .int 0]) (by rw [hw17]) ?_
  refine lv_if_eq (tgt := 51) hx hb dX6_shown_44 (by decide) (fun _ => ?_) (fun cz => absurd (by decide) cz)
  refine lv_iconst (v := 0) hx hb dX6_shown_51 (by decide) ?_
  refine lv_iadd hx hb dX6_shown_52 ?_
  refine lv_topi (fun y19 ey19 => ?_)
  obtain rfl : y19 = 0 := ey19.trans (by decide)
  refine lv_istore_n (lv' := [(1, .int 0), (3, .ref h10), (2, .int 0), (0, .ref h0)]) hx hb dX6_shown_53 rfl hl (by decide) rfl (fun ls hl => ?_)
  refine lv_iload_n hx hb dX6_shown_54 rfl (lv_at hl 0 rfl) ?_
  refine lv_aload_n hx hb dX6_shown_55 rfl (lv_at hl 3 rfl) ?_
  refine va_get (D := (dC, dI)) (ci := 6) (v := .ref h2) (C := RX6) (T := TX6) (N := 3) hx hb hts in_X6 hown hK hP 0 rfl rfl 2 (by decide) (hts _ q_54) (fun _ h9 => h9) rfl dX6_shown_56 ?_
  refine lv_aload_n hx hb dX6_shown_59 rfl (lv_at hl 1 rfl) ?_
  refine lv_bipush (v := 49) hx hb dX6_shown_60 (by decide) ?_
  have hM22 := k991_isShownBySomeTest l hl9 dC dI z h2 h10 h1 h6 h3 h4 h5 h7 h8 h9 h11 h12 h13 h14 h15 h16 o2 o1 o3 o4 o5 o6 o7 o8 H17.size kc0 kc1 kc2 kc3
  obtain ⟨hF20, hC23⟩ := pc_M hM22 hP hD hK hS hX hT hA [3, 4, 5, 6, 1, 7, 8, 2, 9, 10, 11, 12, 13, 14, 15, 16] [1, 0, 2, 3] rfl rfl rfl
  refine va_calli (va_runV (As := [.ref h10, .int 49]) (rest := [.int 0]) ⟨hx, hb, hml, hown, hts⟩ hM22 (cwV 2 hts (gV q_396 q_397 q_398 q_46 q_395) rfl rfl rfl hV_X4_isShownBySomeTest ⟨Nat.le_of_ble_eq_true rfl, Nat.le_of_ble_eq_true rfl⟩) ⟨pc_blind, va_recv hK hP (ci := 4) (q := (RX4, TX4, 3)) (q0 := 3) rfl rfl, fun U hU hW => ⟨rfl, hC23 U hU hW⟩⟩ rfl rfl hl.1 rfl (lv_room (Nat.le_of_ble_eq_true rfl)) dX6_shown_62 ⟨(Nat.le_of_ble_eq_true rfl), (Nat.le_of_ble_eq_true rfl)⟩) hS (fun q9 _ h9 => hF20 q9 h9) hF20 (fun r25 u24 t24 H24 L24 ht24 hvm24 hw24 hB24 hz24 hk24 hS => ?_)
  obtain ⟨hP, hD, hK⟩ := pq_jn (wz := [(h0, ce16 h1 o0 h2), (h2, ce417 h1 h6), (h10, ce434 (z.2.1 0) o2 h10), (h1, ce7 h3 h4 o1 h5), (h6, ce416 kc0), (h3, ce331 h7), (h4, ce331 h8), (h5, ce366 h9), (h7, ce330 kc1 h10 h11 h12 h13 h14 h15 h16), (h8, ce330 kc2 h10 h11 h12 h13 h14 h15 h16), (h9, ce330 kc3 h10 h11 h12 h13 h14 h15 h16), (h11, ce428 (z.2.1 0) o3 h11), (h12, ce429 (z.2.1 0) o4 h12), (h13, ce430 (z.2.1 0) o5 h13), (h14, ce431 (z.2.1 0) o6 h14), (h15, ce432 (z.2.1 0) o7 h15), (h16, ce433 (z.2.1 0) o8 h16)]) (tz := [(kc0, .int), (kc1, .object "java/lang/Object"), (kc2, .object "java/lang/Object"), (kc3, .object "java/lang/Object")]) hP hD hK [3, 4, 5, 6, 1, 7, 8, 2, 9, 10, 11, 12, 13, 14, 15, 16] [] rfl hk24 hF20 hB24.1 ht24 hvm24 rfl rfl
  have hG : s.heap.size + 0 ≤ H24.size := Nat.le_trans hG hz24
  refine W.eq (g2 := F0 m 65 ls [.int 0, .int 0]) (by rw [hw24]) ?_
  refine lv_if_eq (tgt := 72) hx hb dX6_shown_65 (by decide) (fun _ => ?_) (fun cz => absurd (by decide) cz)
  refine lv_iconst (v := 0) hx hb dX6_shown_72 (by decide) ?_
  refine lv_iadd hx hb dX6_shown_73 ?_
  refine lv_topi (fun y26 ey26 => ?_)
  obtain rfl : y26 = 0 := ey26.trans (by decide)
  refine lv_istore_n (lv' := [(1, .int 0), (3, .ref h10), (2, .int 0), (0, .ref h0)]) hx hb dX6_shown_74 rfl hl (by decide) rfl (fun ls hl => ?_)
  refine lv_iinc (v := 1) (lv' := [(2, .int 1), (1, .int 0), (3, .ref h10), (0, .ref h0)]) hx hb dX6_shown_75 hl (k := 2) rfl (by decide) (by decide) rfl (fun ls hl => ?_)
  refine lv_goto (tgt := 4) hx hb dX6_shown_78 (by decide) ?_
  refine lv_iload_n hx hb dX6_shown_4 rfl (lv_at hl 0 rfl) ?_
  refine lv_aload_n hx hb dX6_shown_5 rfl (lv_at hl 3 rfl) ?_
  refine va_get (D := (dC, dI)) (ci := 6) (v := .ref h1) (C := RX6) (T := TX6) (N := 3) hx hb hts in_X6 hown hK hP 0 rfl rfl 0 (by decide) (hts _ q_34) (fun _ h9 => h9) rfl dX6_shown_6 ?_
  refine va_get (D := (dC, dI)) (ci := 2) (v := .ref h3) (C := RX0) (T := TX0) (N := 4) hx hb hts in_X0 hown hK hP 3 rfl rfl 0 (by decide) (hts _ q_83) (fun _ h9 => h9) rfl dX6_shown_9 ?_
  have hM29 := k20_size l hl9 dC dI z h3 h7 H24.size 7 7
  obtain ⟨hF27, hC30⟩ := pc_M hM29 hP hD hK hS hX hT hA [5] [] rfl rfl rfl
  refine va_calli (va_runV (As := []) (rest := [.int 1]) ⟨hx, hb, hml, hown, hts⟩ hM29 (cwV 0 hts (gV q_76 q_77 q_78 q_12 q_75) rfl rfl rfl hV_Jx4a65c_size_8abf5 ⟨Nat.le_of_ble_eq_true rfl, Nat.le_of_ble_eq_true rfl⟩) ⟨pc_blind, va_recv hK hP (ci := 0) (q := (RJx4a65c, TJx4a65c, 3)) (q0 := 5) rfl rfl, fun U hU hW => ⟨rfl, hC30 U hU hW⟩⟩ rfl rfl hl.1 rfl (lv_room (Nat.le_of_ble_eq_true rfl)) dX6_shown_12 ⟨(Nat.le_of_ble_eq_true rfl), (Nat.le_of_ble_eq_true rfl)⟩) hS (fun q9 _ h9 => hF27 q9 h9) hF27 (fun r32 u31 t31 H31 L31 ht31 hvm31 hw31 hB31 hz31 hk31 hS => ?_)
  have hP := pq_keep hP hD [5] rfl hk31 hB31.1 ht31
  have hG : s.heap.size + 0 ≤ H31.size := Nat.le_trans hG hz31
  refine W.eq (g2 := F0 m 15 ls [.int 7, .int 1]) (by rw [hw31]) ?_
  refine lv_icmp_ge (tgt := 81) hx hb dX6_shown_15 (by decide) (fun cz => absurd cz (by decide)) (fun _ => ?_)
  refine lv_aload_n hx hb dX6_shown_18 rfl (lv_at hl 3 rfl) ?_
  refine va_get (D := (dC, dI)) (ci := 6) (v := .ref h1) (C := RX6) (T := TX6) (N := 3) hx hb hts in_X6 hown hK hP 0 rfl rfl 0 (by decide) (hts _ q_34) (fun _ h9 => h9) rfl dX6_shown_19 ?_
  refine va_get (D := (dC, dI)) (ci := 2) (v := .ref h3) (C := RX0) (T := TX0) (N := 4) hx hb hts in_X0 hown hK hP 3 rfl rfl 0 (by decide) (hts _ q_83) (fun _ h9 => h9) rfl dX6_shown_22 ?_
  refine lv_iload_n hx hb dX6_shown_25 rfl (lv_at hl 0 rfl) ?_
  have hM35 := k636_get l hl9 dC dI z h3 h7 h10 h11 h12 h13 h14 h15 h16 H31.size kc1
  obtain ⟨hF33, hC36⟩ := pc_M hM35 hP hD hK hS hX hT hA [5, 8] [1] rfl rfl rfl
  refine va_callr (va_runV (As := [.int 1]) (rest := []) ⟨hx, hb, hml, hown, hts⟩ hM35 (cwV 1 hts (gV q_381 q_157 q_158 q_12 q_155) rfl rfl rfl hV_Jx4a65c_get_915e3 ⟨Nat.le_of_ble_eq_true rfl, Nat.le_of_ble_eq_true rfl⟩) ⟨pc_blind, va_recv hK hP (ci := 0) (q := (RJx4a65c, TJx4a65c, 3)) (q0 := 5) rfl rfl, fun U hU hW => ⟨rfl, hC36 U hU hW⟩⟩ rfl rfl hl.1 rfl (lv_room (Nat.le_of_ble_eq_true rfl)) dX6_shown_26 ⟨(Nat.le_of_ble_eq_true rfl), (Nat.le_of_ble_eq_true rfl)⟩) hS (fun q9 _ h9 => hF33 q9 h9) hF33 (fun u37 r38 t37 H37 L37 ht37 hvm37 hw37 hB37 hz37 hk37 hS => ?_)
  obtain ⟨hr37, hB37⟩ := hB37
  have hP := pq_keep hP hD [5, 8] rfl hk37 hB37.1 ht37
  have hG : s.heap.size + 0 ≤ H37.size := Nat.le_trans hG hz37
  refine W.eq (g2 := F0 m 29 ls [.ref h11]) (by rw [hr37]) ?_
  refine va_castE (nm := RX2) hx hb hown (hts _ q_382) (va_recv hK hP (ci := 3) (q := (RX2, TX2, 19)) (q0 := 11) rfl rfl) dX6_shown_29 ?_
  refine lv_astore_n (lv' := [(3, .ref h11), (2, .int 1), (1, .int 0), (0, .ref h0)]) hx hb dX6_shown_32 rfl hl (by decide) rfl (fun ls hl => ?_)
  refine lv_iload_n hx hb dX6_shown_33 rfl (lv_at hl 2 rfl) ?_
  refine lv_aload_n hx hb dX6_shown_34 rfl (lv_at hl 3 rfl) ?_
  refine va_get (D := (dC, dI)) (ci := 6) (v := .ref h2) (C := RX6) (T := TX6) (N := 3) hx hb hts in_X6 hown hK hP 0 rfl rfl 2 (by decide) (hts _ q_54) (fun _ h9 => h9) rfl dX6_shown_35 ?_
  refine lv_aload_n hx hb dX6_shown_38 rfl (lv_at hl 0 rfl) ?_
  refine lv_bipush (v := 48) hx hb dX6_shown_39 (by decide) ?_
  have hM41 := k876_isShownBySomeTest l hl9 dC dI z h2 h11 h1 h6 h4 h5 h8 h9 h10 h12 h13 h14 h15 h16 o3 h3 o1 o2 o4 o5 o6 o7 o8 H37.size kc0 kc2 kc3
  obtain ⟨hF39, hC42⟩ := pc_M hM41 hP hD hK hS hX hT hA [1, 11, 3, 4, 6, 7, 9, 10, 2, 12, 13, 14, 15, 16] [0, 2, 3] rfl rfl rfl
  refine va_calli (va_runV (As := [.ref h11, .int 48]) (rest := [.int 0]) ⟨hx, hb, hml, hown, hts⟩ hM41 (cwV 2 hts (gV q_396 q_397 q_398 q_46 q_395) rfl rfl rfl hV_X4_isShownBySomeTest ⟨Nat.le_of_ble_eq_true rfl, Nat.le_of_ble_eq_true rfl⟩) ⟨pc_blind, va_recv hK hP (ci := 4) (q := (RX4, TX4, 3)) (q0 := 1) rfl rfl, fun U hU hW => ⟨rfl, hC42 U hU hW⟩⟩ rfl rfl hl.1 rfl (lv_room (Nat.le_of_ble_eq_true rfl)) dX6_shown_41 ⟨(Nat.le_of_ble_eq_true rfl), (Nat.le_of_ble_eq_true rfl)⟩) hS (fun q9 _ h9 => hF39 q9 h9) hF39 (fun r44 u43 t43 H43 L43 ht43 hvm43 hw43 hB43 hz43 hk43 hS => ?_)
  obtain ⟨hP, hD, hK⟩ := pq_jn (wz := [(h0, ce16 h1 o0 h2), (h3, ce331 h7), (h7, ce330 kc1 h10 h11 h12 h13 h14 h15 h16), (h2, ce417 h1 h6), (h11, ce428 (z.2.1 0) o3 h11), (h1, ce7 h3 h4 o1 h5), (h6, ce416 kc0), (h4, ce331 h8), (h5, ce366 h9), (h8, ce330 kc2 h10 h11 h12 h13 h14 h15 h16), (h9, ce330 kc3 h10 h11 h12 h13 h14 h15 h16), (h10, ce427 (z.2.1 0) o2 h10), (h12, ce429 (z.2.1 0) o4 h12), (h13, ce430 (z.2.1 0) o5 h13), (h14, ce431 (z.2.1 0) o6 h14), (h15, ce432 (z.2.1 0) o7 h15), (h16, ce433 (z.2.1 0) o8 h16)]) (tz := [(kc1, .object "java/lang/Object"), (kc0, .int), (kc2, .object "java/lang/Object"), (kc3, .object "java/lang/Object")]) hP hD hK [1, 11, 3, 4, 6, 7, 9, 10, 2, 12, 13, 14, 15, 16] [1] rfl hk43 hF39 hB43.1 ht43 hvm43 rfl rfl
  have hG : s.heap.size + 0 ≤ H43.size := Nat.le_trans hG hz43
  refine W.eq (g2 := F0 m 44 ls [.int 0, .int 0]) (by rw [hw43]) ?_
  refine lv_if_eq (tgt := 51) hx hb dX6_shown_44 (by decide) (fun _ => ?_) (fun cz => absurd (by decide) cz)
  refine lv_iconst (v := 0) hx hb dX6_shown_51 (by decide) ?_
  refine lv_iadd hx hb dX6_shown_52 ?_
  refine lv_topi (fun y45 ey45 => ?_)
  obtain rfl : y45 = 0 := ey45.trans (by decide)
  refine lv_istore_n (lv' := [(1, .int 0), (3, .ref h11), (2, .int 1), (0, .ref h0)]) hx hb dX6_shown_53 rfl hl (by decide) rfl (fun ls hl => ?_)
  refine lv_iload_n hx hb dX6_shown_54 rfl (lv_at hl 0 rfl) ?_
  refine lv_aload_n hx hb dX6_shown_55 rfl (lv_at hl 3 rfl) ?_
  refine va_get (D := (dC, dI)) (ci := 6) (v := .ref h2) (C := RX6) (T := TX6) (N := 3) hx hb hts in_X6 hown hK hP 0 rfl rfl 2 (by decide) (hts _ q_54) (fun _ h9 => h9) rfl dX6_shown_56 ?_
  refine lv_aload_n hx hb dX6_shown_59 rfl (lv_at hl 1 rfl) ?_
  refine lv_bipush (v := 49) hx hb dX6_shown_60 (by decide) ?_
  have hM48 := k885_isShownBySomeTest l hl9 dC dI z h2 h11 h1 h6 h3 h4 h5 h7 h8 h9 h10 h12 h13 h14 h15 h16 o3 o1 o2 o4 o5 o6 o7 o8 H43.size kc0 kc1 kc2 kc3
  obtain ⟨hF46, hC49⟩ := pc_M hM48 hP hD hK hS hX hT hA [3, 4, 5, 6, 1, 7, 8, 2, 9, 10, 11, 12, 13, 14, 15, 16] [1, 0, 2, 3] rfl rfl rfl
  refine va_calli (va_runV (As := [.ref h11, .int 49]) (rest := [.int 0]) ⟨hx, hb, hml, hown, hts⟩ hM48 (cwV 2 hts (gV q_396 q_397 q_398 q_46 q_395) rfl rfl rfl hV_X4_isShownBySomeTest ⟨Nat.le_of_ble_eq_true rfl, Nat.le_of_ble_eq_true rfl⟩) ⟨pc_blind, va_recv hK hP (ci := 4) (q := (RX4, TX4, 3)) (q0 := 3) rfl rfl, fun U hU hW => ⟨rfl, hC49 U hU hW⟩⟩ rfl rfl hl.1 rfl (lv_room (Nat.le_of_ble_eq_true rfl)) dX6_shown_62 ⟨(Nat.le_of_ble_eq_true rfl), (Nat.le_of_ble_eq_true rfl)⟩) hS (fun q9 _ h9 => hF46 q9 h9) hF46 (fun r51 u50 t50 H50 L50 ht50 hvm50 hw50 hB50 hz50 hk50 hS => ?_)
  obtain ⟨hP, hD, hK⟩ := pq_jn (wz := [(h0, ce16 h1 o0 h2), (h2, ce417 h1 h6), (h11, ce435 (z.2.1 0) o3 h11), (h1, ce7 h3 h4 o1 h5), (h6, ce416 kc0), (h3, ce331 h7), (h4, ce331 h8), (h5, ce366 h9), (h7, ce330 kc1 h10 h11 h12 h13 h14 h15 h16), (h8, ce330 kc2 h10 h11 h12 h13 h14 h15 h16), (h9, ce330 kc3 h10 h11 h12 h13 h14 h15 h16), (h10, ce427 (z.2.1 0) o2 h10), (h12, ce429 (z.2.1 0) o4 h12), (h13, ce430 (z.2.1 0) o5 h13), (h14, ce431 (z.2.1 0) o6 h14), (h15, ce432 (z.2.1 0) o7 h15), (h16, ce433 (z.2.1 0) o8 h16)]) (tz := [(kc0, .int), (kc1, .object "java/lang/Object"), (kc2, .object "java/lang/Object"), (kc3, .object "java/lang/Object")]) hP hD hK [3, 4, 5, 6, 1, 7, 8, 2, 9, 10, 11, 12, 13, 14, 15, 16] [] rfl hk50 hF46 hB50.1 ht50 hvm50 rfl rfl
  have hG : s.heap.size + 0 ≤ H50.size := Nat.le_trans hG hz50
  refine W.eq (g2 := F0 m 65 ls [.int 0, .int 0]) (by rw [hw50]) ?_
  refine lv_if_eq (tgt := 72) hx hb dX6_shown_65 (by decide) (fun _ => ?_) (fun cz => absurd (by decide) cz)
  refine lv_iconst (v := 0) hx hb dX6_shown_72 (by decide) ?_
  refine lv_iadd hx hb dX6_shown_73 ?_
  refine lv_topi (fun y52 ey52 => ?_)
  obtain rfl : y52 = 0 := ey52.trans (by decide)
  refine lv_istore_n (lv' := [(1, .int 0), (3, .ref h11), (2, .int 1), (0, .ref h0)]) hx hb dX6_shown_74 rfl hl (by decide) rfl (fun ls hl => ?_)
  refine lv_iinc (v := 2) (lv' := [(2, .int 2), (1, .int 0), (3, .ref h11), (0, .ref h0)]) hx hb dX6_shown_75 hl (k := 2) rfl (by decide) (by decide) rfl (fun ls hl => ?_)
  refine lv_goto (tgt := 4) hx hb dX6_shown_78 (by decide) ?_
  refine lv_iload_n hx hb dX6_shown_4 rfl (lv_at hl 0 rfl) ?_
  refine lv_aload_n hx hb dX6_shown_5 rfl (lv_at hl 3 rfl) ?_
  refine va_get (D := (dC, dI)) (ci := 6) (v := .ref h1) (C := RX6) (T := TX6) (N := 3) hx hb hts in_X6 hown hK hP 0 rfl rfl 0 (by decide) (hts _ q_34) (fun _ h9 => h9) rfl dX6_shown_6 ?_
  refine va_get (D := (dC, dI)) (ci := 2) (v := .ref h3) (C := RX0) (T := TX0) (N := 4) hx hb hts in_X0 hown hK hP 3 rfl rfl 0 (by decide) (hts _ q_83) (fun _ h9 => h9) rfl dX6_shown_9 ?_
  have hM55 := k20_size l hl9 dC dI z h3 h7 H50.size 7 7
  obtain ⟨hF53, hC56⟩ := pc_M hM55 hP hD hK hS hX hT hA [5] [] rfl rfl rfl
  refine va_calli (va_runV (As := []) (rest := [.int 2]) ⟨hx, hb, hml, hown, hts⟩ hM55 (cwV 0 hts (gV q_76 q_77 q_78 q_12 q_75) rfl rfl rfl hV_Jx4a65c_size_8abf5 ⟨Nat.le_of_ble_eq_true rfl, Nat.le_of_ble_eq_true rfl⟩) ⟨pc_blind, va_recv hK hP (ci := 0) (q := (RJx4a65c, TJx4a65c, 3)) (q0 := 5) rfl rfl, fun U hU hW => ⟨rfl, hC56 U hU hW⟩⟩ rfl rfl hl.1 rfl (lv_room (Nat.le_of_ble_eq_true rfl)) dX6_shown_12 ⟨(Nat.le_of_ble_eq_true rfl), (Nat.le_of_ble_eq_true rfl)⟩) hS (fun q9 _ h9 => hF53 q9 h9) hF53 (fun r58 u57 t57 H57 L57 ht57 hvm57 hw57 hB57 hz57 hk57 hS => ?_)
  have hP := pq_keep hP hD [5] rfl hk57 hB57.1 ht57
  have hG : s.heap.size + 0 ≤ H57.size := Nat.le_trans hG hz57
  refine W.eq (g2 := F0 m 15 ls [.int 7, .int 2]) (by rw [hw57]) ?_
  refine lv_icmp_ge (tgt := 81) hx hb dX6_shown_15 (by decide) (fun cz => absurd cz (by decide)) (fun _ => ?_)
  refine lv_aload_n hx hb dX6_shown_18 rfl (lv_at hl 3 rfl) ?_
  refine va_get (D := (dC, dI)) (ci := 6) (v := .ref h1) (C := RX6) (T := TX6) (N := 3) hx hb hts in_X6 hown hK hP 0 rfl rfl 0 (by decide) (hts _ q_34) (fun _ h9 => h9) rfl dX6_shown_19 ?_
  refine va_get (D := (dC, dI)) (ci := 2) (v := .ref h3) (C := RX0) (T := TX0) (N := 4) hx hb hts in_X0 hown hK hP 3 rfl rfl 0 (by decide) (hts _ q_83) (fun _ h9 => h9) rfl dX6_shown_22 ?_
  refine lv_iload_n hx hb dX6_shown_25 rfl (lv_at hl 0 rfl) ?_
  have hM61 := k640_get l hl9 dC dI z h3 h7 h10 h11 h12 h13 h14 h15 h16 H57.size kc1
  obtain ⟨hF59, hC62⟩ := pc_M hM61 hP hD hK hS hX hT hA [5, 8] [1] rfl rfl rfl
  refine va_callr (va_runV (As := [.int 2]) (rest := []) ⟨hx, hb, hml, hown, hts⟩ hM61 (cwV 1 hts (gV q_381 q_157 q_158 q_12 q_155) rfl rfl rfl hV_Jx4a65c_get_915e3 ⟨Nat.le_of_ble_eq_true rfl, Nat.le_of_ble_eq_true rfl⟩) ⟨pc_blind, va_recv hK hP (ci := 0) (q := (RJx4a65c, TJx4a65c, 3)) (q0 := 5) rfl rfl, fun U hU hW => ⟨rfl, hC62 U hU hW⟩⟩ rfl rfl hl.1 rfl (lv_room (Nat.le_of_ble_eq_true rfl)) dX6_shown_26 ⟨(Nat.le_of_ble_eq_true rfl), (Nat.le_of_ble_eq_true rfl)⟩) hS (fun q9 _ h9 => hF59 q9 h9) hF59 (fun u63 r64 t63 H63 L63 ht63 hvm63 hw63 hB63 hz63 hk63 hS => ?_)
  obtain ⟨hr63, hB63⟩ := hB63
  have hP := pq_keep hP hD [5, 8] rfl hk63 hB63.1 ht63
  have hG : s.heap.size + 0 ≤ H63.size := Nat.le_trans hG hz63
  refine W.eq (g2 := F0 m 29 ls [.ref h12]) (by rw [hr63]) ?_
  refine va_castE (nm := RX2) hx hb hown (hts _ q_382) (va_recv hK hP (ci := 3) (q := (RX2, TX2, 19)) (q0 := 12) rfl rfl) dX6_shown_29 ?_
  refine lv_astore_n (lv' := [(3, .ref h12), (2, .int 2), (1, .int 0), (0, .ref h0)]) hx hb dX6_shown_32 rfl hl (by decide) rfl (fun ls hl => ?_)
  refine lv_iload_n hx hb dX6_shown_33 rfl (lv_at hl 2 rfl) ?_
  refine lv_aload_n hx hb dX6_shown_34 rfl (lv_at hl 3 rfl) ?_
  refine va_get (D := (dC, dI)) (ci := 6) (v := .ref h2) (C := RX6) (T := TX6) (N := 3) hx hb hts in_X6 hown hK hP 0 rfl rfl 2 (by decide) (hts _ q_54) (fun _ h9 => h9) rfl dX6_shown_35 ?_
  refine lv_aload_n hx hb dX6_shown_38 rfl (lv_at hl 0 rfl) ?_
  refine lv_bipush (v := 48) hx hb dX6_shown_39 (by decide) ?_
  have hM67 := k888_isShownBySomeTest l hl9 dC dI z h2 h12 h1 h6 h4 h5 h8 h9 h10 h11 h13 h14 h15 h16 o4 h3 o1 o2 o3 o5 o6 o7 o8 H63.size kc0 kc2 kc3
  obtain ⟨hF65, hC68⟩ := pc_M hM67 hP hD hK hS hX hT hA [1, 12, 3, 4, 6, 7, 9, 10, 11, 2, 13, 14, 15, 16] [0, 2, 3] rfl rfl rfl
  refine va_calli (va_runV (As := [.ref h12, .int 48]) (rest := [.int 0]) ⟨hx, hb, hml, hown, hts⟩ hM67 (cwV 2 hts (gV q_396 q_397 q_398 q_46 q_395) rfl rfl rfl hV_X4_isShownBySomeTest ⟨Nat.le_of_ble_eq_true rfl, Nat.le_of_ble_eq_true rfl⟩) ⟨pc_blind, va_recv hK hP (ci := 4) (q := (RX4, TX4, 3)) (q0 := 1) rfl rfl, fun U hU hW => ⟨rfl, hC68 U hU hW⟩⟩ rfl rfl hl.1 rfl (lv_room (Nat.le_of_ble_eq_true rfl)) dX6_shown_41 ⟨(Nat.le_of_ble_eq_true rfl), (Nat.le_of_ble_eq_true rfl)⟩) hS (fun q9 _ h9 => hF65 q9 h9) hF65 (fun r70 u69 t69 H69 L69 ht69 hvm69 hw69 hB69 hz69 hk69 hS => ?_)
  obtain ⟨hP, hD, hK⟩ := pq_jn (wz := [(h0, ce16 h1 o0 h2), (h3, ce331 h7), (h7, ce330 kc1 h10 h11 h12 h13 h14 h15 h16), (h2, ce417 h1 h6), (h12, ce429 (z.2.1 0) o4 h12), (h1, ce7 h3 h4 o1 h5), (h6, ce416 kc0), (h4, ce331 h8), (h5, ce366 h9), (h8, ce330 kc2 h10 h11 h12 h13 h14 h15 h16), (h9, ce330 kc3 h10 h11 h12 h13 h14 h15 h16), (h10, ce427 (z.2.1 0) o2 h10), (h11, ce428 (z.2.1 0) o3 h11), (h13, ce430 (z.2.1 0) o5 h13), (h14, ce431 (z.2.1 0) o6 h14), (h15, ce432 (z.2.1 0) o7 h15), (h16, ce433 (z.2.1 0) o8 h16)]) (tz := [(kc1, .object "java/lang/Object"), (kc0, .int), (kc2, .object "java/lang/Object"), (kc3, .object "java/lang/Object")]) hP hD hK [1, 12, 3, 4, 6, 7, 9, 10, 11, 2, 13, 14, 15, 16] [1] rfl hk69 hF65 hB69.1 ht69 hvm69 rfl rfl
  have hG : s.heap.size + 0 ≤ H69.size := Nat.le_trans hG hz69
  refine W.eq (g2 := F0 m 44 ls [.int 0, .int 0]) (by rw [hw69]) ?_
  refine lv_if_eq (tgt := 51) hx hb dX6_shown_44 (by decide) (fun _ => ?_) (fun cz => absurd (by decide) cz)
  refine lv_iconst (v := 0) hx hb dX6_shown_51 (by decide) ?_
  refine lv_iadd hx hb dX6_shown_52 ?_
  refine lv_topi (fun y71 ey71 => ?_)
  obtain rfl : y71 = 0 := ey71.trans (by decide)
  refine lv_istore_n (lv' := [(1, .int 0), (3, .ref h12), (2, .int 2), (0, .ref h0)]) hx hb dX6_shown_53 rfl hl (by decide) rfl (fun ls hl => ?_)
  refine lv_iload_n hx hb dX6_shown_54 rfl (lv_at hl 0 rfl) ?_
  refine lv_aload_n hx hb dX6_shown_55 rfl (lv_at hl 3 rfl) ?_
  refine va_get (D := (dC, dI)) (ci := 6) (v := .ref h2) (C := RX6) (T := TX6) (N := 3) hx hb hts in_X6 hown hK hP 0 rfl rfl 2 (by decide) (hts _ q_54) (fun _ h9 => h9) rfl dX6_shown_56 ?_
  refine lv_aload_n hx hb dX6_shown_59 rfl (lv_at hl 1 rfl) ?_
  refine lv_bipush (v := 49) hx hb dX6_shown_60 (by decide) ?_
  have hM74 := k896_isShownBySomeTest l hl9 dC dI z h2 h12 h1 h6 h3 h4 h5 h7 h8 h9 h10 h11 h13 h14 h15 h16 o4 o1 o2 o3 o5 o6 o7 o8 H69.size kc0 kc1 kc2 kc3
  obtain ⟨hF72, hC75⟩ := pc_M hM74 hP hD hK hS hX hT hA [3, 4, 5, 6, 1, 7, 8, 2, 9, 10, 11, 12, 13, 14, 15, 16] [1, 0, 2, 3] rfl rfl rfl
  refine va_calli (va_runV (As := [.ref h12, .int 49]) (rest := [.int 0]) ⟨hx, hb, hml, hown, hts⟩ hM74 (cwV 2 hts (gV q_396 q_397 q_398 q_46 q_395) rfl rfl rfl hV_X4_isShownBySomeTest ⟨Nat.le_of_ble_eq_true rfl, Nat.le_of_ble_eq_true rfl⟩) ⟨pc_blind, va_recv hK hP (ci := 4) (q := (RX4, TX4, 3)) (q0 := 3) rfl rfl, fun U hU hW => ⟨rfl, hC75 U hU hW⟩⟩ rfl rfl hl.1 rfl (lv_room (Nat.le_of_ble_eq_true rfl)) dX6_shown_62 ⟨(Nat.le_of_ble_eq_true rfl), (Nat.le_of_ble_eq_true rfl)⟩) hS (fun q9 _ h9 => hF72 q9 h9) hF72 (fun r77 u76 t76 H76 L76 ht76 hvm76 hw76 hB76 hz76 hk76 hS => ?_)
  obtain ⟨hP, hD, hK⟩ := pq_jn (wz := [(h0, ce16 h1 o0 h2), (h2, ce417 h1 h6), (h12, ce436 (z.2.1 0) o4 h12), (h1, ce7 h3 h4 o1 h5), (h6, ce416 kc0), (h3, ce331 h7), (h4, ce331 h8), (h5, ce366 h9), (h7, ce330 kc1 h10 h11 h12 h13 h14 h15 h16), (h8, ce330 kc2 h10 h11 h12 h13 h14 h15 h16), (h9, ce330 kc3 h10 h11 h12 h13 h14 h15 h16), (h10, ce427 (z.2.1 0) o2 h10), (h11, ce428 (z.2.1 0) o3 h11), (h13, ce430 (z.2.1 0) o5 h13), (h14, ce431 (z.2.1 0) o6 h14), (h15, ce432 (z.2.1 0) o7 h15), (h16, ce433 (z.2.1 0) o8 h16)]) (tz := [(kc0, .int), (kc1, .object "java/lang/Object"), (kc2, .object "java/lang/Object"), (kc3, .object "java/lang/Object")]) hP hD hK [3, 4, 5, 6, 1, 7, 8, 2, 9, 10, 11, 12, 13, 14, 15, 16] [] rfl hk76 hF72 hB76.1 ht76 hvm76 rfl rfl
  have hG : s.heap.size + 0 ≤ H76.size := Nat.le_trans hG hz76
  refine W.eq (g2 := F0 m 65 ls [.int 0, .int 0]) (by rw [hw76]) ?_
  refine lv_if_eq (tgt := 72) hx hb dX6_shown_65 (by decide) (fun _ => ?_) (fun cz => absurd (by decide) cz)
  refine lv_iconst (v := 0) hx hb dX6_shown_72 (by decide) ?_
  refine lv_iadd hx hb dX6_shown_73 ?_
  refine lv_topi (fun y78 ey78 => ?_)
  obtain rfl : y78 = 0 := ey78.trans (by decide)
  refine lv_istore_n (lv' := [(1, .int 0), (3, .ref h12), (2, .int 2), (0, .ref h0)]) hx hb dX6_shown_74 rfl hl (by decide) rfl (fun ls hl => ?_)
  refine lv_iinc (v := 3) (lv' := [(2, .int 3), (1, .int 0), (3, .ref h12), (0, .ref h0)]) hx hb dX6_shown_75 hl (k := 2) rfl (by decide) (by decide) rfl (fun ls hl => ?_)
  refine lv_goto (tgt := 4) hx hb dX6_shown_78 (by decide) ?_
  refine lv_iload_n hx hb dX6_shown_4 rfl (lv_at hl 0 rfl) ?_
  refine lv_aload_n hx hb dX6_shown_5 rfl (lv_at hl 3 rfl) ?_
  refine va_get (D := (dC, dI)) (ci := 6) (v := .ref h1) (C := RX6) (T := TX6) (N := 3) hx hb hts in_X6 hown hK hP 0 rfl rfl 0 (by decide) (hts _ q_34) (fun _ h9 => h9) rfl dX6_shown_6 ?_
  refine va_get (D := (dC, dI)) (ci := 2) (v := .ref h3) (C := RX0) (T := TX0) (N := 4) hx hb hts in_X0 hown hK hP 3 rfl rfl 0 (by decide) (hts _ q_83) (fun _ h9 => h9) rfl dX6_shown_9 ?_
  have hM81 := k20_size l hl9 dC dI z h3 h7 H76.size 7 7
  obtain ⟨hF79, hC82⟩ := pc_M hM81 hP hD hK hS hX hT hA [5] [] rfl rfl rfl
  refine va_calli (va_runV (As := []) (rest := [.int 3]) ⟨hx, hb, hml, hown, hts⟩ hM81 (cwV 0 hts (gV q_76 q_77 q_78 q_12 q_75) rfl rfl rfl hV_Jx4a65c_size_8abf5 ⟨Nat.le_of_ble_eq_true rfl, Nat.le_of_ble_eq_true rfl⟩) ⟨pc_blind, va_recv hK hP (ci := 0) (q := (RJx4a65c, TJx4a65c, 3)) (q0 := 5) rfl rfl, fun U hU hW => ⟨rfl, hC82 U hU hW⟩⟩ rfl rfl hl.1 rfl (lv_room (Nat.le_of_ble_eq_true rfl)) dX6_shown_12 ⟨(Nat.le_of_ble_eq_true rfl), (Nat.le_of_ble_eq_true rfl)⟩) hS (fun q9 _ h9 => hF79 q9 h9) hF79 (fun r84 u83 t83 H83 L83 ht83 hvm83 hw83 hB83 hz83 hk83 hS => ?_)
  have hP := pq_keep hP hD [5] rfl hk83 hB83.1 ht83
  have hG : s.heap.size + 0 ≤ H83.size := Nat.le_trans hG hz83
  refine W.eq (g2 := F0 m 15 ls [.int 7, .int 3]) (by rw [hw83]) ?_
  refine lv_icmp_ge (tgt := 81) hx hb dX6_shown_15 (by decide) (fun cz => absurd cz (by decide)) (fun _ => ?_)
  refine lv_aload_n hx hb dX6_shown_18 rfl (lv_at hl 3 rfl) ?_
  refine va_get (D := (dC, dI)) (ci := 6) (v := .ref h1) (C := RX6) (T := TX6) (N := 3) hx hb hts in_X6 hown hK hP 0 rfl rfl 0 (by decide) (hts _ q_34) (fun _ h9 => h9) rfl dX6_shown_19 ?_
  refine va_get (D := (dC, dI)) (ci := 2) (v := .ref h3) (C := RX0) (T := TX0) (N := 4) hx hb hts in_X0 hown hK hP 3 rfl rfl 0 (by decide) (hts _ q_83) (fun _ h9 => h9) rfl dX6_shown_22 ?_
  refine lv_iload_n hx hb dX6_shown_25 rfl (lv_at hl 0 rfl) ?_
  have hM87 := k644_get l hl9 dC dI z h3 h7 h10 h11 h12 h13 h14 h15 h16 H83.size kc1
  obtain ⟨hF85, hC88⟩ := pc_M hM87 hP hD hK hS hX hT hA [5, 8] [1] rfl rfl rfl
  refine va_callr (va_runV (As := [.int 3]) (rest := []) ⟨hx, hb, hml, hown, hts⟩ hM87 (cwV 1 hts (gV q_381 q_157 q_158 q_12 q_155) rfl rfl rfl hV_Jx4a65c_get_915e3 ⟨Nat.le_of_ble_eq_true rfl, Nat.le_of_ble_eq_true rfl⟩) ⟨pc_blind, va_recv hK hP (ci := 0) (q := (RJx4a65c, TJx4a65c, 3)) (q0 := 5) rfl rfl, fun U hU hW => ⟨rfl, hC88 U hU hW⟩⟩ rfl rfl hl.1 rfl (lv_room (Nat.le_of_ble_eq_true rfl)) dX6_shown_26 ⟨(Nat.le_of_ble_eq_true rfl), (Nat.le_of_ble_eq_true rfl)⟩) hS (fun q9 _ h9 => hF85 q9 h9) hF85 (fun u89 r90 t89 H89 L89 ht89 hvm89 hw89 hB89 hz89 hk89 hS => ?_)
  obtain ⟨hr89, hB89⟩ := hB89
  have hP := pq_keep hP hD [5, 8] rfl hk89 hB89.1 ht89
  have hG : s.heap.size + 0 ≤ H89.size := Nat.le_trans hG hz89
  refine W.eq (g2 := F0 m 29 ls [.ref h13]) (by rw [hr89]) ?_
  refine va_castE (nm := RX2) hx hb hown (hts _ q_382) (va_recv hK hP (ci := 3) (q := (RX2, TX2, 19)) (q0 := 13) rfl rfl) dX6_shown_29 ?_
  refine lv_astore_n (lv' := [(3, .ref h13), (2, .int 3), (1, .int 0), (0, .ref h0)]) hx hb dX6_shown_32 rfl hl (by decide) rfl (fun ls hl => ?_)
  refine lv_iload_n hx hb dX6_shown_33 rfl (lv_at hl 2 rfl) ?_
  refine lv_aload_n hx hb dX6_shown_34 rfl (lv_at hl 3 rfl) ?_
  refine va_get (D := (dC, dI)) (ci := 6) (v := .ref h2) (C := RX6) (T := TX6) (N := 3) hx hb hts in_X6 hown hK hP 0 rfl rfl 2 (by decide) (hts _ q_54) (fun _ h9 => h9) rfl dX6_shown_35 ?_
  refine lv_aload_n hx hb dX6_shown_38 rfl (lv_at hl 0 rfl) ?_
  refine lv_bipush (v := 48) hx hb dX6_shown_39 (by decide) ?_
  have hM93 := k899_isShownBySomeTest l hl9 dC dI z h2 h13 h1 h6 h4 h5 h8 h9 h10 h11 h12 h14 h15 h16 o5 h3 o1 o2 o3 o4 o6 o7 o8 H89.size kc0 kc2 kc3
  obtain ⟨hF91, hC94⟩ := pc_M hM93 hP hD hK hS hX hT hA [1, 13, 3, 4, 6, 7, 9, 10, 11, 12, 2, 14, 15, 16] [0, 2, 3] rfl rfl rfl
  refine va_calli (va_runV (As := [.ref h13, .int 48]) (rest := [.int 0]) ⟨hx, hb, hml, hown, hts⟩ hM93 (cwV 2 hts (gV q_396 q_397 q_398 q_46 q_395) rfl rfl rfl hV_X4_isShownBySomeTest ⟨Nat.le_of_ble_eq_true rfl, Nat.le_of_ble_eq_true rfl⟩) ⟨pc_blind, va_recv hK hP (ci := 4) (q := (RX4, TX4, 3)) (q0 := 1) rfl rfl, fun U hU hW => ⟨rfl, hC94 U hU hW⟩⟩ rfl rfl hl.1 rfl (lv_room (Nat.le_of_ble_eq_true rfl)) dX6_shown_41 ⟨(Nat.le_of_ble_eq_true rfl), (Nat.le_of_ble_eq_true rfl)⟩) hS (fun q9 _ h9 => hF91 q9 h9) hF91 (fun r96 u95 t95 H95 L95 ht95 hvm95 hw95 hB95 hz95 hk95 hS => ?_)
  obtain ⟨hP, hD, hK⟩ := pq_jn (wz := [(h0, ce16 h1 o0 h2), (h3, ce331 h7), (h7, ce330 kc1 h10 h11 h12 h13 h14 h15 h16), (h2, ce417 h1 h6), (h13, ce430 (z.2.1 0) o5 h13), (h1, ce7 h3 h4 o1 h5), (h6, ce416 kc0), (h4, ce331 h8), (h5, ce366 h9), (h8, ce330 kc2 h10 h11 h12 h13 h14 h15 h16), (h9, ce330 kc3 h10 h11 h12 h13 h14 h15 h16), (h10, ce427 (z.2.1 0) o2 h10), (h11, ce428 (z.2.1 0) o3 h11), (h12, ce429 (z.2.1 0) o4 h12), (h14, ce431 (z.2.1 0) o6 h14), (h15, ce432 (z.2.1 0) o7 h15), (h16, ce433 (z.2.1 0) o8 h16)]) (tz := [(kc1, .object "java/lang/Object"), (kc0, .int), (kc2, .object "java/lang/Object"), (kc3, .object "java/lang/Object")]) hP hD hK [1, 13, 3, 4, 6, 7, 9, 10, 11, 12, 2, 14, 15, 16] [1] rfl hk95 hF91 hB95.1 ht95 hvm95 rfl rfl
  have hG : s.heap.size + 0 ≤ H95.size := Nat.le_trans hG hz95
  refine W.eq (g2 := F0 m 44 ls [.int 0, .int 0]) (by rw [hw95]) ?_
  refine lv_if_eq (tgt := 51) hx hb dX6_shown_44 (by decide) (fun _ => ?_) (fun cz => absurd (by decide) cz)
  refine lv_iconst (v := 0) hx hb dX6_shown_51 (by decide) ?_
  refine lv_iadd hx hb dX6_shown_52 ?_
  refine lv_topi (fun y97 ey97 => ?_)
  obtain rfl : y97 = 0 := ey97.trans (by decide)
  refine lv_istore_n (lv' := [(1, .int 0), (3, .ref h13), (2, .int 3), (0, .ref h0)]) hx hb dX6_shown_53 rfl hl (by decide) rfl (fun ls hl => ?_)
  refine lv_iload_n hx hb dX6_shown_54 rfl (lv_at hl 0 rfl) ?_
  refine lv_aload_n hx hb dX6_shown_55 rfl (lv_at hl 3 rfl) ?_
  refine va_get (D := (dC, dI)) (ci := 6) (v := .ref h2) (C := RX6) (T := TX6) (N := 3) hx hb hts in_X6 hown hK hP 0 rfl rfl 2 (by decide) (hts _ q_54) (fun _ h9 => h9) rfl dX6_shown_56 ?_
  refine lv_aload_n hx hb dX6_shown_59 rfl (lv_at hl 1 rfl) ?_
  refine lv_bipush (v := 49) hx hb dX6_shown_60 (by decide) ?_
  have hM100 := k907_isShownBySomeTest l hl9 dC dI z h2 h13 h1 h6 h3 h4 h5 h7 h8 h9 h10 h11 h12 h14 h15 h16 o5 o1 o2 o3 o4 o6 o7 o8 H95.size kc0 kc1 kc2 kc3
  obtain ⟨hF98, hC101⟩ := pc_M hM100 hP hD hK hS hX hT hA [3, 4, 5, 6, 1, 7, 8, 2, 9, 10, 11, 12, 13, 14, 15, 16] [1, 0, 2, 3] rfl rfl rfl
  refine va_calli (va_runV (As := [.ref h13, .int 49]) (rest := [.int 0]) ⟨hx, hb, hml, hown, hts⟩ hM100 (cwV 2 hts (gV q_396 q_397 q_398 q_46 q_395) rfl rfl rfl hV_X4_isShownBySomeTest ⟨Nat.le_of_ble_eq_true rfl, Nat.le_of_ble_eq_true rfl⟩) ⟨pc_blind, va_recv hK hP (ci := 4) (q := (RX4, TX4, 3)) (q0 := 3) rfl rfl, fun U hU hW => ⟨rfl, hC101 U hU hW⟩⟩ rfl rfl hl.1 rfl (lv_room (Nat.le_of_ble_eq_true rfl)) dX6_shown_62 ⟨(Nat.le_of_ble_eq_true rfl), (Nat.le_of_ble_eq_true rfl)⟩) hS (fun q9 _ h9 => hF98 q9 h9) hF98 (fun r103 u102 t102 H102 L102 ht102 hvm102 hw102 hB102 hz102 hk102 hS => ?_)
  obtain ⟨hP, hD, hK⟩ := pq_jn (wz := [(h0, ce16 h1 o0 h2), (h2, ce417 h1 h6), (h13, ce437 (z.2.1 0) o5 h13), (h1, ce7 h3 h4 o1 h5), (h6, ce416 kc0), (h3, ce331 h7), (h4, ce331 h8), (h5, ce366 h9), (h7, ce330 kc1 h10 h11 h12 h13 h14 h15 h16), (h8, ce330 kc2 h10 h11 h12 h13 h14 h15 h16), (h9, ce330 kc3 h10 h11 h12 h13 h14 h15 h16), (h10, ce427 (z.2.1 0) o2 h10), (h11, ce428 (z.2.1 0) o3 h11), (h12, ce429 (z.2.1 0) o4 h12), (h14, ce431 (z.2.1 0) o6 h14), (h15, ce432 (z.2.1 0) o7 h15), (h16, ce433 (z.2.1 0) o8 h16)]) (tz := [(kc0, .int), (kc1, .object "java/lang/Object"), (kc2, .object "java/lang/Object"), (kc3, .object "java/lang/Object")]) hP hD hK [3, 4, 5, 6, 1, 7, 8, 2, 9, 10, 11, 12, 13, 14, 15, 16] [] rfl hk102 hF98 hB102.1 ht102 hvm102 rfl rfl
  have hG : s.heap.size + 0 ≤ H102.size := Nat.le_trans hG hz102
  refine W.eq (g2 := F0 m 65 ls [.int 0, .int 0]) (by rw [hw102]) ?_
  refine lv_if_eq (tgt := 72) hx hb dX6_shown_65 (by decide) (fun _ => ?_) (fun cz => absurd (by decide) cz)
  refine lv_iconst (v := 0) hx hb dX6_shown_72 (by decide) ?_
  refine lv_iadd hx hb dX6_shown_73 ?_
  refine lv_topi (fun y104 ey104 => ?_)
  obtain rfl : y104 = 0 := ey104.trans (by decide)
  refine lv_istore_n (lv' := [(1, .int 0), (3, .ref h13), (2, .int 3), (0, .ref h0)]) hx hb dX6_shown_74 rfl hl (by decide) rfl (fun ls hl => ?_)
  refine lv_iinc (v := 4) (lv' := [(2, .int 4), (1, .int 0), (3, .ref h13), (0, .ref h0)]) hx hb dX6_shown_75 hl (k := 2) rfl (by decide) (by decide) rfl (fun ls hl => ?_)
  refine lv_goto (tgt := 4) hx hb dX6_shown_78 (by decide) ?_
  refine lv_iload_n hx hb dX6_shown_4 rfl (lv_at hl 0 rfl) ?_
  refine lv_aload_n hx hb dX6_shown_5 rfl (lv_at hl 3 rfl) ?_
  refine va_get (D := (dC, dI)) (ci := 6) (v := .ref h1) (C := RX6) (T := TX6) (N := 3) hx hb hts in_X6 hown hK hP 0 rfl rfl 0 (by decide) (hts _ q_34) (fun _ h9 => h9) rfl dX6_shown_6 ?_
  refine va_get (D := (dC, dI)) (ci := 2) (v := .ref h3) (C := RX0) (T := TX0) (N := 4) hx hb hts in_X0 hown hK hP 3 rfl rfl 0 (by decide) (hts _ q_83) (fun _ h9 => h9) rfl dX6_shown_9 ?_
  have hM107 := k20_size l hl9 dC dI z h3 h7 H102.size 7 7
  obtain ⟨hF105, hC108⟩ := pc_M hM107 hP hD hK hS hX hT hA [5] [] rfl rfl rfl
  refine va_calli (va_runV (As := []) (rest := [.int 4]) ⟨hx, hb, hml, hown, hts⟩ hM107 (cwV 0 hts (gV q_76 q_77 q_78 q_12 q_75) rfl rfl rfl hV_Jx4a65c_size_8abf5 ⟨Nat.le_of_ble_eq_true rfl, Nat.le_of_ble_eq_true rfl⟩) ⟨pc_blind, va_recv hK hP (ci := 0) (q := (RJx4a65c, TJx4a65c, 3)) (q0 := 5) rfl rfl, fun U hU hW => ⟨rfl, hC108 U hU hW⟩⟩ rfl rfl hl.1 rfl (lv_room (Nat.le_of_ble_eq_true rfl)) dX6_shown_12 ⟨(Nat.le_of_ble_eq_true rfl), (Nat.le_of_ble_eq_true rfl)⟩) hS (fun q9 _ h9 => hF105 q9 h9) hF105 (fun r110 u109 t109 H109 L109 ht109 hvm109 hw109 hB109 hz109 hk109 hS => ?_)
  have hP := pq_keep hP hD [5] rfl hk109 hB109.1 ht109
  have hG : s.heap.size + 0 ≤ H109.size := Nat.le_trans hG hz109
  refine W.eq (g2 := F0 m 15 ls [.int 7, .int 4]) (by rw [hw109]) ?_
  refine lv_icmp_ge (tgt := 81) hx hb dX6_shown_15 (by decide) (fun cz => absurd cz (by decide)) (fun _ => ?_)
  refine lv_aload_n hx hb dX6_shown_18 rfl (lv_at hl 3 rfl) ?_
  refine va_get (D := (dC, dI)) (ci := 6) (v := .ref h1) (C := RX6) (T := TX6) (N := 3) hx hb hts in_X6 hown hK hP 0 rfl rfl 0 (by decide) (hts _ q_34) (fun _ h9 => h9) rfl dX6_shown_19 ?_
  refine va_get (D := (dC, dI)) (ci := 2) (v := .ref h3) (C := RX0) (T := TX0) (N := 4) hx hb hts in_X0 hown hK hP 3 rfl rfl 0 (by decide) (hts _ q_83) (fun _ h9 => h9) rfl dX6_shown_22 ?_
  refine lv_iload_n hx hb dX6_shown_25 rfl (lv_at hl 0 rfl) ?_
  have hM113 := k648_get l hl9 dC dI z h3 h7 h10 h11 h12 h13 h14 h15 h16 H109.size kc1
  obtain ⟨hF111, hC114⟩ := pc_M hM113 hP hD hK hS hX hT hA [5, 8] [1] rfl rfl rfl
  refine va_callr (va_runV (As := [.int 4]) (rest := []) ⟨hx, hb, hml, hown, hts⟩ hM113 (cwV 1 hts (gV q_381 q_157 q_158 q_12 q_155) rfl rfl rfl hV_Jx4a65c_get_915e3 ⟨Nat.le_of_ble_eq_true rfl, Nat.le_of_ble_eq_true rfl⟩) ⟨pc_blind, va_recv hK hP (ci := 0) (q := (RJx4a65c, TJx4a65c, 3)) (q0 := 5) rfl rfl, fun U hU hW => ⟨rfl, hC114 U hU hW⟩⟩ rfl rfl hl.1 rfl (lv_room (Nat.le_of_ble_eq_true rfl)) dX6_shown_26 ⟨(Nat.le_of_ble_eq_true rfl), (Nat.le_of_ble_eq_true rfl)⟩) hS (fun q9 _ h9 => hF111 q9 h9) hF111 (fun u115 r116 t115 H115 L115 ht115 hvm115 hw115 hB115 hz115 hk115 hS => ?_)
  obtain ⟨hr115, hB115⟩ := hB115
  have hP := pq_keep hP hD [5, 8] rfl hk115 hB115.1 ht115
  have hG : s.heap.size + 0 ≤ H115.size := Nat.le_trans hG hz115
  refine W.eq (g2 := F0 m 29 ls [.ref h14]) (by rw [hr115]) ?_
  refine va_castE (nm := RX2) hx hb hown (hts _ q_382) (va_recv hK hP (ci := 3) (q := (RX2, TX2, 19)) (q0 := 14) rfl rfl) dX6_shown_29 ?_
  refine lv_astore_n (lv' := [(3, .ref h14), (2, .int 4), (1, .int 0), (0, .ref h0)]) hx hb dX6_shown_32 rfl hl (by decide) rfl (fun ls hl => ?_)
  refine lv_iload_n hx hb dX6_shown_33 rfl (lv_at hl 2 rfl) ?_
  refine lv_aload_n hx hb dX6_shown_34 rfl (lv_at hl 3 rfl) ?_
  refine va_get (D := (dC, dI)) (ci := 6) (v := .ref h2) (C := RX6) (T := TX6) (N := 3) hx hb hts in_X6 hown hK hP 0 rfl rfl 2 (by decide) (hts _ q_54) (fun _ h9 => h9) rfl dX6_shown_35 ?_
  refine lv_aload_n hx hb dX6_shown_38 rfl (lv_at hl 0 rfl) ?_
  refine lv_bipush (v := 48) hx hb dX6_shown_39 (by decide) ?_
  have hM119 := k910_isShownBySomeTest l hl9 dC dI z h2 h14 h1 h6 h4 h5 h8 h9 h10 h11 h12 h13 h15 h16 o6 h3 o1 o2 o3 o4 o5 o7 o8 H115.size kc0 kc2 kc3
  obtain ⟨hF117, hC120⟩ := pc_M hM119 hP hD hK hS hX hT hA [1, 14, 3, 4, 6, 7, 9, 10, 11, 12, 13, 2, 15, 16] [0, 2, 3] rfl rfl rfl
  refine va_calli (va_runV (As := [.ref h14, .int 48]) (rest := [.int 0]) ⟨hx, hb, hml, hown, hts⟩ hM119 (cwV 2 hts (gV q_396 q_397 q_398 q_46 q_395) rfl rfl rfl hV_X4_isShownBySomeTest ⟨Nat.le_of_ble_eq_true rfl, Nat.le_of_ble_eq_true rfl⟩) ⟨pc_blind, va_recv hK hP (ci := 4) (q := (RX4, TX4, 3)) (q0 := 1) rfl rfl, fun U hU hW => ⟨rfl, hC120 U hU hW⟩⟩ rfl rfl hl.1 rfl (lv_room (Nat.le_of_ble_eq_true rfl)) dX6_shown_41 ⟨(Nat.le_of_ble_eq_true rfl), (Nat.le_of_ble_eq_true rfl)⟩) hS (fun q9 _ h9 => hF117 q9 h9) hF117 (fun r122 u121 t121 H121 L121 ht121 hvm121 hw121 hB121 hz121 hk121 hS => ?_)
  obtain ⟨hP, hD, hK⟩ := pq_jn (wz := [(h0, ce16 h1 o0 h2), (h3, ce331 h7), (h7, ce330 kc1 h10 h11 h12 h13 h14 h15 h16), (h2, ce417 h1 h6), (h14, ce431 (z.2.1 0) o6 h14), (h1, ce7 h3 h4 o1 h5), (h6, ce416 kc0), (h4, ce331 h8), (h5, ce366 h9), (h8, ce330 kc2 h10 h11 h12 h13 h14 h15 h16), (h9, ce330 kc3 h10 h11 h12 h13 h14 h15 h16), (h10, ce427 (z.2.1 0) o2 h10), (h11, ce428 (z.2.1 0) o3 h11), (h12, ce429 (z.2.1 0) o4 h12), (h13, ce430 (z.2.1 0) o5 h13), (h15, ce432 (z.2.1 0) o7 h15), (h16, ce433 (z.2.1 0) o8 h16)]) (tz := [(kc1, .object "java/lang/Object"), (kc0, .int), (kc2, .object "java/lang/Object"), (kc3, .object "java/lang/Object")]) hP hD hK [1, 14, 3, 4, 6, 7, 9, 10, 11, 12, 13, 2, 15, 16] [1] rfl hk121 hF117 hB121.1 ht121 hvm121 rfl rfl
  have hG : s.heap.size + 0 ≤ H121.size := Nat.le_trans hG hz121
  refine W.eq (g2 := F0 m 44 ls [.int 0, .int 0]) (by rw [hw121]) ?_
  refine lv_if_eq (tgt := 51) hx hb dX6_shown_44 (by decide) (fun _ => ?_) (fun cz => absurd (by decide) cz)
  refine lv_iconst (v := 0) hx hb dX6_shown_51 (by decide) ?_
  refine lv_iadd hx hb dX6_shown_52 ?_
  refine lv_topi (fun y123 ey123 => ?_)
  obtain rfl : y123 = 0 := ey123.trans (by decide)
  refine lv_istore_n (lv' := [(1, .int 0), (3, .ref h14), (2, .int 4), (0, .ref h0)]) hx hb dX6_shown_53 rfl hl (by decide) rfl (fun ls hl => ?_)
  refine lv_iload_n hx hb dX6_shown_54 rfl (lv_at hl 0 rfl) ?_
  refine lv_aload_n hx hb dX6_shown_55 rfl (lv_at hl 3 rfl) ?_
  refine va_get (D := (dC, dI)) (ci := 6) (v := .ref h2) (C := RX6) (T := TX6) (N := 3) hx hb hts in_X6 hown hK hP 0 rfl rfl 2 (by decide) (hts _ q_54) (fun _ h9 => h9) rfl dX6_shown_56 ?_
  refine lv_aload_n hx hb dX6_shown_59 rfl (lv_at hl 1 rfl) ?_
  refine lv_bipush (v := 49) hx hb dX6_shown_60 (by decide) ?_
  have hM126 := k918_isShownBySomeTest l hl9 dC dI z h2 h14 h1 h6 h3 h4 h5 h7 h8 h9 h10 h11 h12 h13 h15 h16 o6 o1 o2 o3 o4 o5 o7 o8 H121.size kc0 kc1 kc2 kc3
  obtain ⟨hF124, hC127⟩ := pc_M hM126 hP hD hK hS hX hT hA [3, 4, 5, 6, 1, 7, 8, 2, 9, 10, 11, 12, 13, 14, 15, 16] [1, 0, 2, 3] rfl rfl rfl
  refine va_calli (va_runV (As := [.ref h14, .int 49]) (rest := [.int 0]) ⟨hx, hb, hml, hown, hts⟩ hM126 (cwV 2 hts (gV q_396 q_397 q_398 q_46 q_395) rfl rfl rfl hV_X4_isShownBySomeTest ⟨Nat.le_of_ble_eq_true rfl, Nat.le_of_ble_eq_true rfl⟩) ⟨pc_blind, va_recv hK hP (ci := 4) (q := (RX4, TX4, 3)) (q0 := 3) rfl rfl, fun U hU hW => ⟨rfl, hC127 U hU hW⟩⟩ rfl rfl hl.1 rfl (lv_room (Nat.le_of_ble_eq_true rfl)) dX6_shown_62 ⟨(Nat.le_of_ble_eq_true rfl), (Nat.le_of_ble_eq_true rfl)⟩) hS (fun q9 _ h9 => hF124 q9 h9) hF124 (fun r129 u128 t128 H128 L128 ht128 hvm128 hw128 hB128 hz128 hk128 hS => ?_)
  obtain ⟨hP, hD, hK⟩ := pq_jn (wz := [(h0, ce16 h1 o0 h2), (h2, ce417 h1 h6), (h14, ce438 (z.2.1 0) o6 h14), (h1, ce7 h3 h4 o1 h5), (h6, ce416 kc0), (h3, ce331 h7), (h4, ce331 h8), (h5, ce366 h9), (h7, ce330 kc1 h10 h11 h12 h13 h14 h15 h16), (h8, ce330 kc2 h10 h11 h12 h13 h14 h15 h16), (h9, ce330 kc3 h10 h11 h12 h13 h14 h15 h16), (h10, ce427 (z.2.1 0) o2 h10), (h11, ce428 (z.2.1 0) o3 h11), (h12, ce429 (z.2.1 0) o4 h12), (h13, ce430 (z.2.1 0) o5 h13), (h15, ce432 (z.2.1 0) o7 h15), (h16, ce433 (z.2.1 0) o8 h16)]) (tz := [(kc0, .int), (kc1, .object "java/lang/Object"), (kc2, .object "java/lang/Object"), (kc3, .object "java/lang/Object")]) hP hD hK [3, 4, 5, 6, 1, 7, 8, 2, 9, 10, 11, 12, 13, 14, 15, 16] [] rfl hk128 hF124 hB128.1 ht128 hvm128 rfl rfl
  have hG : s.heap.size + 0 ≤ H128.size := Nat.le_trans hG hz128
  refine W.eq (g2 := F0 m 65 ls [.int 0, .int 0]) (by rw [hw128]) ?_
  refine lv_if_eq (tgt := 72) hx hb dX6_shown_65 (by decide) (fun _ => ?_) (fun cz => absurd (by decide) cz)
  refine lv_iconst (v := 0) hx hb dX6_shown_72 (by decide) ?_
  refine lv_iadd hx hb dX6_shown_73 ?_
  refine lv_topi (fun y130 ey130 => ?_)
  obtain rfl : y130 = 0 := ey130.trans (by decide)
  refine lv_istore_n (lv' := [(1, .int 0), (3, .ref h14), (2, .int 4), (0, .ref h0)]) hx hb dX6_shown_74 rfl hl (by decide) rfl (fun ls hl => ?_)
  refine lv_iinc (v := 5) (lv' := [(2, .int 5), (1, .int 0), (3, .ref h14), (0, .ref h0)]) hx hb dX6_shown_75 hl (k := 2) rfl (by decide) (by decide) rfl (fun ls hl => ?_)
  refine lv_goto (tgt := 4) hx hb dX6_shown_78 (by decide) ?_
  refine lv_iload_n hx hb dX6_shown_4 rfl (lv_at hl 0 rfl) ?_
  refine lv_aload_n hx hb dX6_shown_5 rfl (lv_at hl 3 rfl) ?_
  refine va_get (D := (dC, dI)) (ci := 6) (v := .ref h1) (C := RX6) (T := TX6) (N := 3) hx hb hts in_X6 hown hK hP 0 rfl rfl 0 (by decide) (hts _ q_34) (fun _ h9 => h9) rfl dX6_shown_6 ?_
  refine va_get (D := (dC, dI)) (ci := 2) (v := .ref h3) (C := RX0) (T := TX0) (N := 4) hx hb hts in_X0 hown hK hP 3 rfl rfl 0 (by decide) (hts _ q_83) (fun _ h9 => h9) rfl dX6_shown_9 ?_
  have hM133 := k20_size l hl9 dC dI z h3 h7 H128.size 7 7
  obtain ⟨hF131, hC134⟩ := pc_M hM133 hP hD hK hS hX hT hA [5] [] rfl rfl rfl
  refine va_calli (va_runV (As := []) (rest := [.int 5]) ⟨hx, hb, hml, hown, hts⟩ hM133 (cwV 0 hts (gV q_76 q_77 q_78 q_12 q_75) rfl rfl rfl hV_Jx4a65c_size_8abf5 ⟨Nat.le_of_ble_eq_true rfl, Nat.le_of_ble_eq_true rfl⟩) ⟨pc_blind, va_recv hK hP (ci := 0) (q := (RJx4a65c, TJx4a65c, 3)) (q0 := 5) rfl rfl, fun U hU hW => ⟨rfl, hC134 U hU hW⟩⟩ rfl rfl hl.1 rfl (lv_room (Nat.le_of_ble_eq_true rfl)) dX6_shown_12 ⟨(Nat.le_of_ble_eq_true rfl), (Nat.le_of_ble_eq_true rfl)⟩) hS (fun q9 _ h9 => hF131 q9 h9) hF131 (fun r136 u135 t135 H135 L135 ht135 hvm135 hw135 hB135 hz135 hk135 hS => ?_)
  have hP := pq_keep hP hD [5] rfl hk135 hB135.1 ht135
  have hG : s.heap.size + 0 ≤ H135.size := Nat.le_trans hG hz135
  refine W.eq (g2 := F0 m 15 ls [.int 7, .int 5]) (by rw [hw135]) ?_
  refine lv_icmp_ge (tgt := 81) hx hb dX6_shown_15 (by decide) (fun cz => absurd cz (by decide)) (fun _ => ?_)
  refine lv_aload_n hx hb dX6_shown_18 rfl (lv_at hl 3 rfl) ?_
  refine va_get (D := (dC, dI)) (ci := 6) (v := .ref h1) (C := RX6) (T := TX6) (N := 3) hx hb hts in_X6 hown hK hP 0 rfl rfl 0 (by decide) (hts _ q_34) (fun _ h9 => h9) rfl dX6_shown_19 ?_
  refine va_get (D := (dC, dI)) (ci := 2) (v := .ref h3) (C := RX0) (T := TX0) (N := 4) hx hb hts in_X0 hown hK hP 3 rfl rfl 0 (by decide) (hts _ q_83) (fun _ h9 => h9) rfl dX6_shown_22 ?_
  refine lv_iload_n hx hb dX6_shown_25 rfl (lv_at hl 0 rfl) ?_
  have hM139 := k652_get l hl9 dC dI z h3 h7 h10 h11 h12 h13 h14 h15 h16 H135.size kc1
  obtain ⟨hF137, hC140⟩ := pc_M hM139 hP hD hK hS hX hT hA [5, 8] [1] rfl rfl rfl
  refine va_callr (va_runV (As := [.int 5]) (rest := []) ⟨hx, hb, hml, hown, hts⟩ hM139 (cwV 1 hts (gV q_381 q_157 q_158 q_12 q_155) rfl rfl rfl hV_Jx4a65c_get_915e3 ⟨Nat.le_of_ble_eq_true rfl, Nat.le_of_ble_eq_true rfl⟩) ⟨pc_blind, va_recv hK hP (ci := 0) (q := (RJx4a65c, TJx4a65c, 3)) (q0 := 5) rfl rfl, fun U hU hW => ⟨rfl, hC140 U hU hW⟩⟩ rfl rfl hl.1 rfl (lv_room (Nat.le_of_ble_eq_true rfl)) dX6_shown_26 ⟨(Nat.le_of_ble_eq_true rfl), (Nat.le_of_ble_eq_true rfl)⟩) hS (fun q9 _ h9 => hF137 q9 h9) hF137 (fun u141 r142 t141 H141 L141 ht141 hvm141 hw141 hB141 hz141 hk141 hS => ?_)
  obtain ⟨hr141, hB141⟩ := hB141
  have hP := pq_keep hP hD [5, 8] rfl hk141 hB141.1 ht141
  have hG : s.heap.size + 0 ≤ H141.size := Nat.le_trans hG hz141
  refine W.eq (g2 := F0 m 29 ls [.ref h15]) (by rw [hr141]) ?_
  refine va_castE (nm := RX2) hx hb hown (hts _ q_382) (va_recv hK hP (ci := 3) (q := (RX2, TX2, 19)) (q0 := 15) rfl rfl) dX6_shown_29 ?_
  refine lv_astore_n (lv' := [(3, .ref h15), (2, .int 5), (1, .int 0), (0, .ref h0)]) hx hb dX6_shown_32 rfl hl (by decide) rfl (fun ls hl => ?_)
  refine lv_iload_n hx hb dX6_shown_33 rfl (lv_at hl 2 rfl) ?_
  refine lv_aload_n hx hb dX6_shown_34 rfl (lv_at hl 3 rfl) ?_
  refine va_get (D := (dC, dI)) (ci := 6) (v := .ref h2) (C := RX6) (T := TX6) (N := 3) hx hb hts in_X6 hown hK hP 0 rfl rfl 2 (by decide) (hts _ q_54) (fun _ h9 => h9) rfl dX6_shown_35 ?_
  refine lv_aload_n hx hb dX6_shown_38 rfl (lv_at hl 0 rfl) ?_
  refine lv_bipush (v := 48) hx hb dX6_shown_39 (by decide) ?_
  have hM145 := k921_isShownBySomeTest l hl9 dC dI z h2 h15 h1 h6 h4 h5 h8 h9 h10 h11 h12 h13 h14 h16 o7 h3 o1 o2 o3 o4 o5 o6 o8 H141.size kc0 kc2 kc3
  obtain ⟨hF143, hC146⟩ := pc_M hM145 hP hD hK hS hX hT hA [1, 15, 3, 4, 6, 7, 9, 10, 11, 12, 13, 14, 2, 16] [0, 2, 3] rfl rfl rfl
  refine va_calli (va_runV (As := [.ref h15, .int 48]) (rest := [.int 0]) ⟨hx, hb, hml, hown, hts⟩ hM145 (cwV 2 hts (gV q_396 q_397 q_398 q_46 q_395) rfl rfl rfl hV_X4_isShownBySomeTest ⟨Nat.le_of_ble_eq_true rfl, Nat.le_of_ble_eq_true rfl⟩) ⟨pc_blind, va_recv hK hP (ci := 4) (q := (RX4, TX4, 3)) (q0 := 1) rfl rfl, fun U hU hW => ⟨rfl, hC146 U hU hW⟩⟩ rfl rfl hl.1 rfl (lv_room (Nat.le_of_ble_eq_true rfl)) dX6_shown_41 ⟨(Nat.le_of_ble_eq_true rfl), (Nat.le_of_ble_eq_true rfl)⟩) hS (fun q9 _ h9 => hF143 q9 h9) hF143 (fun r148 u147 t147 H147 L147 ht147 hvm147 hw147 hB147 hz147 hk147 hS => ?_)
  obtain ⟨hP, hD, hK⟩ := pq_jn (wz := [(h0, ce16 h1 o0 h2), (h3, ce331 h7), (h7, ce330 kc1 h10 h11 h12 h13 h14 h15 h16), (h2, ce417 h1 h6), (h15, ce432 (z.2.1 0) o7 h15), (h1, ce7 h3 h4 o1 h5), (h6, ce416 kc0), (h4, ce331 h8), (h5, ce366 h9), (h8, ce330 kc2 h10 h11 h12 h13 h14 h15 h16), (h9, ce330 kc3 h10 h11 h12 h13 h14 h15 h16), (h10, ce427 (z.2.1 0) o2 h10), (h11, ce428 (z.2.1 0) o3 h11), (h12, ce429 (z.2.1 0) o4 h12), (h13, ce430 (z.2.1 0) o5 h13), (h14, ce431 (z.2.1 0) o6 h14), (h16, ce433 (z.2.1 0) o8 h16)]) (tz := [(kc1, .object "java/lang/Object"), (kc0, .int), (kc2, .object "java/lang/Object"), (kc3, .object "java/lang/Object")]) hP hD hK [1, 15, 3, 4, 6, 7, 9, 10, 11, 12, 13, 14, 2, 16] [1] rfl hk147 hF143 hB147.1 ht147 hvm147 rfl rfl
  have hG : s.heap.size + 0 ≤ H147.size := Nat.le_trans hG hz147
  refine W.eq (g2 := F0 m 44 ls [.int 0, .int 0]) (by rw [hw147]) ?_
  refine lv_if_eq (tgt := 51) hx hb dX6_shown_44 (by decide) (fun _ => ?_) (fun cz => absurd (by decide) cz)
  refine lv_iconst (v := 0) hx hb dX6_shown_51 (by decide) ?_
  refine lv_iadd hx hb dX6_shown_52 ?_
  refine lv_topi (fun y149 ey149 => ?_)
  obtain rfl : y149 = 0 := ey149.trans (by decide)
  refine lv_istore_n (lv' := [(1, .int 0), (3, .ref h15), (2, .int 5), (0, .ref h0)]) hx hb dX6_shown_53 rfl hl (by decide) rfl (fun ls hl => ?_)
  refine lv_iload_n hx hb dX6_shown_54 rfl (lv_at hl 0 rfl) ?_
  refine lv_aload_n hx hb dX6_shown_55 rfl (lv_at hl 3 rfl) ?_
  refine va_get (D := (dC, dI)) (ci := 6) (v := .ref h2) (C := RX6) (T := TX6) (N := 3) hx hb hts in_X6 hown hK hP 0 rfl rfl 2 (by decide) (hts _ q_54) (fun _ h9 => h9) rfl dX6_shown_56 ?_
  refine lv_aload_n hx hb dX6_shown_59 rfl (lv_at hl 1 rfl) ?_
  refine lv_bipush (v := 49) hx hb dX6_shown_60 (by decide) ?_
  have hM152 := k929_isShownBySomeTest l hl9 dC dI z h2 h15 h1 h6 h3 h4 h5 h7 h8 h9 h10 h11 h12 h13 h14 h16 o7 o1 o2 o3 o4 o5 o6 o8 H147.size kc0 kc1 kc2 kc3
  obtain ⟨hF150, hC153⟩ := pc_M hM152 hP hD hK hS hX hT hA [3, 4, 5, 6, 1, 7, 8, 2, 9, 10, 11, 12, 13, 14, 15, 16] [1, 0, 2, 3] rfl rfl rfl
  refine va_calli (va_runV (As := [.ref h15, .int 49]) (rest := [.int 0]) ⟨hx, hb, hml, hown, hts⟩ hM152 (cwV 2 hts (gV q_396 q_397 q_398 q_46 q_395) rfl rfl rfl hV_X4_isShownBySomeTest ⟨Nat.le_of_ble_eq_true rfl, Nat.le_of_ble_eq_true rfl⟩) ⟨pc_blind, va_recv hK hP (ci := 4) (q := (RX4, TX4, 3)) (q0 := 3) rfl rfl, fun U hU hW => ⟨rfl, hC153 U hU hW⟩⟩ rfl rfl hl.1 rfl (lv_room (Nat.le_of_ble_eq_true rfl)) dX6_shown_62 ⟨(Nat.le_of_ble_eq_true rfl), (Nat.le_of_ble_eq_true rfl)⟩) hS (fun q9 _ h9 => hF150 q9 h9) hF150 (fun r155 u154 t154 H154 L154 ht154 hvm154 hw154 hB154 hz154 hk154 hS => ?_)
  obtain ⟨hP, hD, hK⟩ := pq_jn (wz := [(h0, ce16 h1 o0 h2), (h2, ce417 h1 h6), (h15, ce439 (z.2.1 0) o7 h15), (h1, ce7 h3 h4 o1 h5), (h6, ce416 kc0), (h3, ce331 h7), (h4, ce331 h8), (h5, ce366 h9), (h7, ce330 kc1 h10 h11 h12 h13 h14 h15 h16), (h8, ce330 kc2 h10 h11 h12 h13 h14 h15 h16), (h9, ce330 kc3 h10 h11 h12 h13 h14 h15 h16), (h10, ce427 (z.2.1 0) o2 h10), (h11, ce428 (z.2.1 0) o3 h11), (h12, ce429 (z.2.1 0) o4 h12), (h13, ce430 (z.2.1 0) o5 h13), (h14, ce431 (z.2.1 0) o6 h14), (h16, ce433 (z.2.1 0) o8 h16)]) (tz := [(kc0, .int), (kc1, .object "java/lang/Object"), (kc2, .object "java/lang/Object"), (kc3, .object "java/lang/Object")]) hP hD hK [3, 4, 5, 6, 1, 7, 8, 2, 9, 10, 11, 12, 13, 14, 15, 16] [] rfl hk154 hF150 hB154.1 ht154 hvm154 rfl rfl
  have hG : s.heap.size + 0 ≤ H154.size := Nat.le_trans hG hz154
  refine W.eq (g2 := F0 m 65 ls [.int 0, .int 0]) (by rw [hw154]) ?_
  refine lv_if_eq (tgt := 72) hx hb dX6_shown_65 (by decide) (fun _ => ?_) (fun cz => absurd (by decide) cz)
  refine lv_iconst (v := 0) hx hb dX6_shown_72 (by decide) ?_
  refine lv_iadd hx hb dX6_shown_73 ?_
  refine lv_topi (fun y156 ey156 => ?_)
  obtain rfl : y156 = 0 := ey156.trans (by decide)
  refine lv_istore_n (lv' := [(1, .int 0), (3, .ref h15), (2, .int 5), (0, .ref h0)]) hx hb dX6_shown_74 rfl hl (by decide) rfl (fun ls hl => ?_)
  refine lv_iinc (v := 6) (lv' := [(2, .int 6), (1, .int 0), (3, .ref h15), (0, .ref h0)]) hx hb dX6_shown_75 hl (k := 2) rfl (by decide) (by decide) rfl (fun ls hl => ?_)
  refine lv_goto (tgt := 4) hx hb dX6_shown_78 (by decide) ?_
  refine lv_iload_n hx hb dX6_shown_4 rfl (lv_at hl 0 rfl) ?_
  refine lv_aload_n hx hb dX6_shown_5 rfl (lv_at hl 3 rfl) ?_
  refine va_get (D := (dC, dI)) (ci := 6) (v := .ref h1) (C := RX6) (T := TX6) (N := 3) hx hb hts in_X6 hown hK hP 0 rfl rfl 0 (by decide) (hts _ q_34) (fun _ h9 => h9) rfl dX6_shown_6 ?_
  refine va_get (D := (dC, dI)) (ci := 2) (v := .ref h3) (C := RX0) (T := TX0) (N := 4) hx hb hts in_X0 hown hK hP 3 rfl rfl 0 (by decide) (hts _ q_83) (fun _ h9 => h9) rfl dX6_shown_9 ?_
  have hM159 := k20_size l hl9 dC dI z h3 h7 H154.size 7 7
  obtain ⟨hF157, hC160⟩ := pc_M hM159 hP hD hK hS hX hT hA [5] [] rfl rfl rfl
  refine va_calli (va_runV (As := []) (rest := [.int 6]) ⟨hx, hb, hml, hown, hts⟩ hM159 (cwV 0 hts (gV q_76 q_77 q_78 q_12 q_75) rfl rfl rfl hV_Jx4a65c_size_8abf5 ⟨Nat.le_of_ble_eq_true rfl, Nat.le_of_ble_eq_true rfl⟩) ⟨pc_blind, va_recv hK hP (ci := 0) (q := (RJx4a65c, TJx4a65c, 3)) (q0 := 5) rfl rfl, fun U hU hW => ⟨rfl, hC160 U hU hW⟩⟩ rfl rfl hl.1 rfl (lv_room (Nat.le_of_ble_eq_true rfl)) dX6_shown_12 ⟨(Nat.le_of_ble_eq_true rfl), (Nat.le_of_ble_eq_true rfl)⟩) hS (fun q9 _ h9 => hF157 q9 h9) hF157 (fun r162 u161 t161 H161 L161 ht161 hvm161 hw161 hB161 hz161 hk161 hS => ?_)
  have hP := pq_keep hP hD [5] rfl hk161 hB161.1 ht161
  have hG : s.heap.size + 0 ≤ H161.size := Nat.le_trans hG hz161
  refine W.eq (g2 := F0 m 15 ls [.int 7, .int 6]) (by rw [hw161]) ?_
  refine lv_icmp_ge (tgt := 81) hx hb dX6_shown_15 (by decide) (fun cz => absurd cz (by decide)) (fun _ => ?_)
  refine lv_aload_n hx hb dX6_shown_18 rfl (lv_at hl 3 rfl) ?_
  refine va_get (D := (dC, dI)) (ci := 6) (v := .ref h1) (C := RX6) (T := TX6) (N := 3) hx hb hts in_X6 hown hK hP 0 rfl rfl 0 (by decide) (hts _ q_34) (fun _ h9 => h9) rfl dX6_shown_19 ?_
  refine va_get (D := (dC, dI)) (ci := 2) (v := .ref h3) (C := RX0) (T := TX0) (N := 4) hx hb hts in_X0 hown hK hP 3 rfl rfl 0 (by decide) (hts _ q_83) (fun _ h9 => h9) rfl dX6_shown_22 ?_
  refine lv_iload_n hx hb dX6_shown_25 rfl (lv_at hl 0 rfl) ?_
  have hM165 := k656_get l hl9 dC dI z h3 h7 h10 h11 h12 h13 h14 h15 h16 H161.size kc1
  obtain ⟨hF163, hC166⟩ := pc_M hM165 hP hD hK hS hX hT hA [5, 8] [1] rfl rfl rfl
  refine va_callr (va_runV (As := [.int 6]) (rest := []) ⟨hx, hb, hml, hown, hts⟩ hM165 (cwV 1 hts (gV q_381 q_157 q_158 q_12 q_155) rfl rfl rfl hV_Jx4a65c_get_915e3 ⟨Nat.le_of_ble_eq_true rfl, Nat.le_of_ble_eq_true rfl⟩) ⟨pc_blind, va_recv hK hP (ci := 0) (q := (RJx4a65c, TJx4a65c, 3)) (q0 := 5) rfl rfl, fun U hU hW => ⟨rfl, hC166 U hU hW⟩⟩ rfl rfl hl.1 rfl (lv_room (Nat.le_of_ble_eq_true rfl)) dX6_shown_26 ⟨(Nat.le_of_ble_eq_true rfl), (Nat.le_of_ble_eq_true rfl)⟩) hS (fun q9 _ h9 => hF163 q9 h9) hF163 (fun u167 r168 t167 H167 L167 ht167 hvm167 hw167 hB167 hz167 hk167 hS => ?_)
  obtain ⟨hr167, hB167⟩ := hB167
  have hP := pq_keep hP hD [5, 8] rfl hk167 hB167.1 ht167
  have hG : s.heap.size + 0 ≤ H167.size := Nat.le_trans hG hz167
  refine W.eq (g2 := F0 m 29 ls [.ref h16]) (by rw [hr167]) ?_
  refine va_castE (nm := RX2) hx hb hown (hts _ q_382) (va_recv hK hP (ci := 3) (q := (RX2, TX2, 19)) (q0 := 16) rfl rfl) dX6_shown_29 ?_
  refine lv_astore_n (lv' := [(3, .ref h16), (2, .int 6), (1, .int 0), (0, .ref h0)]) hx hb dX6_shown_32 rfl hl (by decide) rfl (fun ls hl => ?_)
  refine lv_iload_n hx hb dX6_shown_33 rfl (lv_at hl 2 rfl) ?_
  refine lv_aload_n hx hb dX6_shown_34 rfl (lv_at hl 3 rfl) ?_
  refine va_get (D := (dC, dI)) (ci := 6) (v := .ref h2) (C := RX6) (T := TX6) (N := 3) hx hb hts in_X6 hown hK hP 0 rfl rfl 2 (by decide) (hts _ q_54) (fun _ h9 => h9) rfl dX6_shown_35 ?_
  refine lv_aload_n hx hb dX6_shown_38 rfl (lv_at hl 0 rfl) ?_
  refine lv_bipush (v := 48) hx hb dX6_shown_39 (by decide) ?_
  have hM171 := k932_isShownBySomeTest l hl9 dC dI z h2 h16 h1 h6 h4 h5 h8 h9 h10 h11 h12 h13 h14 h15 o8 h3 o1 o2 o3 o4 o5 o6 o7 H167.size kc0 kc2 kc3
  obtain ⟨hF169, hC172⟩ := pc_M hM171 hP hD hK hS hX hT hA [1, 16, 3, 4, 6, 7, 9, 10, 11, 12, 13, 14, 15, 2] [0, 2, 3] rfl rfl rfl
  refine va_calli (va_runV (As := [.ref h16, .int 48]) (rest := [.int 0]) ⟨hx, hb, hml, hown, hts⟩ hM171 (cwV 2 hts (gV q_396 q_397 q_398 q_46 q_395) rfl rfl rfl hV_X4_isShownBySomeTest ⟨Nat.le_of_ble_eq_true rfl, Nat.le_of_ble_eq_true rfl⟩) ⟨pc_blind, va_recv hK hP (ci := 4) (q := (RX4, TX4, 3)) (q0 := 1) rfl rfl, fun U hU hW => ⟨rfl, hC172 U hU hW⟩⟩ rfl rfl hl.1 rfl (lv_room (Nat.le_of_ble_eq_true rfl)) dX6_shown_41 ⟨(Nat.le_of_ble_eq_true rfl), (Nat.le_of_ble_eq_true rfl)⟩) hS (fun q9 _ h9 => hF169 q9 h9) hF169 (fun r174 u173 t173 H173 L173 ht173 hvm173 hw173 hB173 hz173 hk173 hS => ?_)
  obtain ⟨hP, hD, hK⟩ := pq_jn (wz := [(h0, ce16 h1 o0 h2), (h3, ce331 h7), (h7, ce330 kc1 h10 h11 h12 h13 h14 h15 h16), (h2, ce417 h1 h6), (h16, ce433 (z.2.1 0) o8 h16), (h1, ce7 h3 h4 o1 h5), (h6, ce416 kc0), (h4, ce331 h8), (h5, ce366 h9), (h8, ce330 kc2 h10 h11 h12 h13 h14 h15 h16), (h9, ce330 kc3 h10 h11 h12 h13 h14 h15 h16), (h10, ce427 (z.2.1 0) o2 h10), (h11, ce428 (z.2.1 0) o3 h11), (h12, ce429 (z.2.1 0) o4 h12), (h13, ce430 (z.2.1 0) o5 h13), (h14, ce431 (z.2.1 0) o6 h14), (h15, ce432 (z.2.1 0) o7 h15)]) (tz := [(kc1, .object "java/lang/Object"), (kc0, .int), (kc2, .object "java/lang/Object"), (kc3, .object "java/lang/Object")]) hP hD hK [1, 16, 3, 4, 6, 7, 9, 10, 11, 12, 13, 14, 15, 2] [1] rfl hk173 hF169 hB173.1 ht173 hvm173 rfl rfl
  have hG : s.heap.size + 0 ≤ H173.size := Nat.le_trans hG hz173
  refine W.eq (g2 := F0 m 44 ls [.int 0, .int 0]) (by rw [hw173]) ?_
  refine lv_if_eq (tgt := 51) hx hb dX6_shown_44 (by decide) (fun _ => ?_) (fun cz => absurd (by decide) cz)
  refine lv_iconst (v := 0) hx hb dX6_shown_51 (by decide) ?_
  refine lv_iadd hx hb dX6_shown_52 ?_
  refine lv_topi (fun y175 ey175 => ?_)
  obtain rfl : y175 = 0 := ey175.trans (by decide)
  refine lv_istore_n (lv' := [(1, .int 0), (3, .ref h16), (2, .int 6), (0, .ref h0)]) hx hb dX6_shown_53 rfl hl (by decide) rfl (fun ls hl => ?_)
  refine lv_iload_n hx hb dX6_shown_54 rfl (lv_at hl 0 rfl) ?_
  refine lv_aload_n hx hb dX6_shown_55 rfl (lv_at hl 3 rfl) ?_
  refine va_get (D := (dC, dI)) (ci := 6) (v := .ref h2) (C := RX6) (T := TX6) (N := 3) hx hb hts in_X6 hown hK hP 0 rfl rfl 2 (by decide) (hts _ q_54) (fun _ h9 => h9) rfl dX6_shown_56 ?_
  refine lv_aload_n hx hb dX6_shown_59 rfl (lv_at hl 1 rfl) ?_
  refine lv_bipush (v := 49) hx hb dX6_shown_60 (by decide) ?_
  have hM178 := k940_isShownBySomeTest l hl9 dC dI z h2 h16 h1 h6 h3 h4 h5 h7 h8 h9 h10 h11 h12 h13 h14 h15 o8 o1 o2 o3 o4 o5 o6 o7 H173.size kc0 kc1 kc2 kc3
  obtain ⟨hF176, hC179⟩ := pc_M hM178 hP hD hK hS hX hT hA [3, 4, 5, 6, 1, 7, 8, 2, 9, 10, 11, 12, 13, 14, 15, 16] [1, 0, 2, 3] rfl rfl rfl
  refine va_calli (va_runV (As := [.ref h16, .int 49]) (rest := [.int 0]) ⟨hx, hb, hml, hown, hts⟩ hM178 (cwV 2 hts (gV q_396 q_397 q_398 q_46 q_395) rfl rfl rfl hV_X4_isShownBySomeTest ⟨Nat.le_of_ble_eq_true rfl, Nat.le_of_ble_eq_true rfl⟩) ⟨pc_blind, va_recv hK hP (ci := 4) (q := (RX4, TX4, 3)) (q0 := 3) rfl rfl, fun U hU hW => ⟨rfl, hC179 U hU hW⟩⟩ rfl rfl hl.1 rfl (lv_room (Nat.le_of_ble_eq_true rfl)) dX6_shown_62 ⟨(Nat.le_of_ble_eq_true rfl), (Nat.le_of_ble_eq_true rfl)⟩) hS (fun q9 _ h9 => hF176 q9 h9) hF176 (fun r181 u180 t180 H180 L180 ht180 hvm180 hw180 hB180 hz180 hk180 hS => ?_)
  obtain ⟨hP, hD, hK⟩ := pq_jn (wz := [(h0, ce16 h1 o0 h2), (h2, ce417 h1 h6), (h16, ce440 (z.2.1 0) o8 h16), (h1, ce7 h3 h4 o1 h5), (h6, ce416 kc0), (h3, ce331 h7), (h4, ce331 h8), (h5, ce366 h9), (h7, ce330 kc1 h10 h11 h12 h13 h14 h15 h16), (h8, ce330 kc2 h10 h11 h12 h13 h14 h15 h16), (h9, ce330 kc3 h10 h11 h12 h13 h14 h15 h16), (h10, ce427 (z.2.1 0) o2 h10), (h11, ce428 (z.2.1 0) o3 h11), (h12, ce429 (z.2.1 0) o4 h12), (h13, ce430 (z.2.1 0) o5 h13), (h14, ce431 (z.2.1 0) o6 h14), (h15, ce432 (z.2.1 0) o7 h15)]) (tz := [(kc0, .int), (kc1, .object "java/lang/Object"), (kc2, .object "java/lang/Object"), (kc3, .object "java/lang/Object")]) hP hD hK [3, 4, 5, 6, 1, 7, 8, 2, 9, 10, 11, 12, 13, 14, 15, 16] [] rfl hk180 hF176 hB180.1 ht180 hvm180 rfl rfl
  have hG : s.heap.size + 0 ≤ H180.size := Nat.le_trans hG hz180
  refine W.eq (g2 := F0 m 65 ls [.int 0, .int 0]) (by rw [hw180]) ?_
  refine lv_if_eq (tgt := 72) hx hb dX6_shown_65 (by decide) (fun _ => ?_) (fun cz => absurd (by decide) cz)
  refine lv_iconst (v := 0) hx hb dX6_shown_72 (by decide) ?_
  refine lv_iadd hx hb dX6_shown_73 ?_
  refine lv_topi (fun y182 ey182 => ?_)
  obtain rfl : y182 = 0 := ey182.trans (by decide)
  refine lv_istore_n (lv' := [(1, .int 0), (3, .ref h16), (2, .int 6), (0, .ref h0)]) hx hb dX6_shown_74 rfl hl (by decide) rfl (fun ls hl => ?_)
  refine lv_iinc (v := 7) (lv' := [(2, .int 7), (1, .int 0), (3, .ref h16), (0, .ref h0)]) hx hb dX6_shown_75 hl (k := 2) rfl (by decide) (by decide) rfl (fun ls hl => ?_)
  refine lv_goto (tgt := 4) hx hb dX6_shown_78 (by decide) ?_
  refine lv_iload_n hx hb dX6_shown_4 rfl (lv_at hl 0 rfl) ?_
  refine lv_aload_n hx hb dX6_shown_5 rfl (lv_at hl 3 rfl) ?_
  refine va_get (D := (dC, dI)) (ci := 6) (v := .ref h1) (C := RX6) (T := TX6) (N := 3) hx hb hts in_X6 hown hK hP 0 rfl rfl 0 (by decide) (hts _ q_34) (fun _ h9 => h9) rfl dX6_shown_6 ?_
  refine va_get (D := (dC, dI)) (ci := 2) (v := .ref h3) (C := RX0) (T := TX0) (N := 4) hx hb hts in_X0 hown hK hP 3 rfl rfl 0 (by decide) (hts _ q_83) (fun _ h9 => h9) rfl dX6_shown_9 ?_
  have hM185 := k20_size l hl9 dC dI z h3 h7 H180.size 7 7
  obtain ⟨hF183, hC186⟩ := pc_M hM185 hP hD hK hS hX hT hA [5] [] rfl rfl rfl
  refine va_calli (va_runV (As := []) (rest := [.int 7]) ⟨hx, hb, hml, hown, hts⟩ hM185 (cwV 0 hts (gV q_76 q_77 q_78 q_12 q_75) rfl rfl rfl hV_Jx4a65c_size_8abf5 ⟨Nat.le_of_ble_eq_true rfl, Nat.le_of_ble_eq_true rfl⟩) ⟨pc_blind, va_recv hK hP (ci := 0) (q := (RJx4a65c, TJx4a65c, 3)) (q0 := 5) rfl rfl, fun U hU hW => ⟨rfl, hC186 U hU hW⟩⟩ rfl rfl hl.1 rfl (lv_room (Nat.le_of_ble_eq_true rfl)) dX6_shown_12 ⟨(Nat.le_of_ble_eq_true rfl), (Nat.le_of_ble_eq_true rfl)⟩) hS (fun q9 _ h9 => hF183 q9 h9) hF183 (fun r188 u187 t187 H187 L187 ht187 hvm187 hw187 hB187 hz187 hk187 hS => ?_)
  have hP := pq_keep hP hD [5] rfl hk187 hB187.1 ht187
  have hG : s.heap.size + 0 ≤ H187.size := Nat.le_trans hG hz187
  refine W.eq (g2 := F0 m 15 ls [.int 7, .int 7]) (by rw [hw187]) ?_
  refine lv_icmp_ge (tgt := 81) hx hb dX6_shown_15 (by decide) (fun _ => ?_) (fun cz => absurd (by decide) cz)
  refine lv_iload_n hx hb dX6_shown_81 rfl (lv_at hl 1 rfl) ?_
  exact W.iret (v := 0) hx hb hr (fun t9 ht9 hW9 => ⟨⟨0, (), rfl, rfl, ⟨pq_mk2 hP hD hK [0, 3, 1, 5, 6, 7, 4, 8, 9, 10, 11, 12, 13, 14, 15, 16, 2] [0, 1, 2, 3] rfl rfl rfl ht9 hW9, by rw [ht9]; exact Nat.le_trans (Nat.add_le_add_left (Nat.le_of_ble_eq_true rfl) _) hG⟩⟩, hS.F ht9⟩) hS.2.2 dX6_shown_82
